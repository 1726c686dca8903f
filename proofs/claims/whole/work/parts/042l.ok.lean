theorem ok_220_420 : ((k_220.drop 420).take 70).all (fun q => px_okE 220 q.1 q.2) = true := by decide +kernel
theorem ok_220_490 : ((k_220.drop 490).take 70).all (fun q => px_okE 220 q.1 q.2) = true := by decide +kernel
