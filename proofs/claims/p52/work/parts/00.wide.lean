/-! a fact about doubles, first of all: rows further down lean on its like -/
theorem q_half : FP.Core.half FP.Core.b64 = 2 ^ 63 := FP.Core.half_b64
