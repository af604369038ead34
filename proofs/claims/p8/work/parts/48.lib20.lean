/-! facts put aside -/
def Bx (P : Prop) : Prop := P
theorem Bx.mk {P : Prop} (h : P) : Bx P := h
theorem Bx.get {P : Prop} (h : Bx P) : P := h
