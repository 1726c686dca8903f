theorem okm_144 : (List.range' 144 12).all px_okm = true := by decide +kernel
theorem okm_156 : (List.range' 156 12).all px_okm = true := by decide +kernel
theorem okm_168 : (List.range' 168 12).all px_okm = true := by decide +kernel
theorem okm_180 : (List.range' 180 12).all px_okm = true := by decide +kernel
