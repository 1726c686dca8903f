theorem okm_96 : (List.range' 96 12).all px_okm = true := by decide +kernel
theorem okm_108 : (List.range' 108 12).all px_okm = true := by decide +kernel
theorem okm_120 : (List.range' 120 12).all px_okm = true := by decide +kernel
theorem okm_132 : (List.range' 132 12).all px_okm = true := by decide +kernel
