/-! the reference reads a text -/
