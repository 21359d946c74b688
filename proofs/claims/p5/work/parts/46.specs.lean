/-! the reference: rows judged, lots -/
