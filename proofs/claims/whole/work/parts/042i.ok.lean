theorem ok_220_0 : ((k_220.drop 0).take 70).all (fun q => px_okE 220 q.1 q.2) = true := by decide +kernel
theorem ok_220_70 : ((k_220.drop 70).take 70).all (fun q => px_okE 220 q.1 q.2) = true := by decide +kernel
