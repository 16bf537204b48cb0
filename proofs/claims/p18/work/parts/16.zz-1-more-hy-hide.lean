/-! a fact that the arithmetic is not to look at -/
theorem jHid.mk {P : Prop} (h : P) : jHid P := h
theorem jHid.o {P : Prop} (h : jHid P) : P := h
