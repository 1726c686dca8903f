theorem ok_220_280 : ((k_220.drop 280).take 70).all (fun q => px_okE 220 q.1 q.2) = true := by decide +kernel
theorem ok_220_350 : ((k_220.drop 350).take 70).all (fun q => px_okE 220 q.1 q.2) = true := by decide +kernel
