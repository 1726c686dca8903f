theorem okm_192 : (List.range' 192 12).all px_okm = true := by decide +kernel
theorem okm_204 : (List.range' 204 12).all px_okm = true := by decide +kernel
theorem okm_216 : (List.range' 216 4).all px_okm = true := by decide +kernel
