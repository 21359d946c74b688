/-! the class: road -/
def xIp {α : Type} (a : Int32) (x y : α) : α := if 0 < a then x else y
/-- the draft as it stands when a text is read onto it -/
def xT0 (T D : xT) : xT := (T.1, T.2.1, T.2.2.1, T.2.2.2.1, T.2.2.2.2.1, T.2.2.2.2.2.1, va_cpy T.2.2.2.2.2.2.1 D.2.2.2.2.2.2.1 0 0 7, T.2.2.2.2.2.2.2.1, T.2.2.2.2.2.2.2.2.1, T.2.2.2.2.2.2.2.2.2.1, fun j => va_cpy (T.2.2.2.2.2.2.2.2.2.2 j) (D.2.2.2.2.2.2.2.2.2.2 j) 0 0 12)
