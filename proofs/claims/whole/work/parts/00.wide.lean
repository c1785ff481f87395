/-! DOUBLES: the laws of numbers (the library's) -/
theorem fp_g64 : FP.Core.Good FP.Core.b64 := FP.Core.good_b64
theorem fp_g32 : FP.Core.Good FP.Core.b32 := FP.Core.good_b32
