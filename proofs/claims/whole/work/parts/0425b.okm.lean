theorem okm_48 : (List.range' 48 12).all px_okm = true := by decide +kernel
theorem okm_60 : (List.range' 60 12).all px_okm = true := by decide +kernel
theorem okm_72 : (List.range' 72 12).all px_okm = true := by decide +kernel
theorem okm_84 : (List.range' 84 12).all px_okm = true := by decide +kernel
