theorem ok_220_140 : ((k_220.drop 140).take 70).all (fun q => px_okE 220 q.1 q.2) = true := by decide +kernel
theorem ok_220_210 : ((k_220.drop 210).take 70).all (fun q => px_okE 220 q.1 q.2) = true := by decide +kernel
