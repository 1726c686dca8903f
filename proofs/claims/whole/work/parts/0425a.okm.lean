theorem okm_0 : (List.range' 0 12).all px_okm = true := by decide +kernel
theorem okm_12 : (List.range' 12 12).all px_okm = true := by decide +kernel
theorem okm_24 : (List.range' 24 12).all px_okm = true := by decide +kernel
theorem okm_36 : (List.range' 36 12).all px_okm = true := by decide +kernel
