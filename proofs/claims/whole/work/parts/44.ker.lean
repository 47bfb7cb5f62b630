/-! COUNTED BY THE KERNEL: the 98 are closed under coming moves; on each of them both ways to find signs agree -/
theorem ker_H : SL.all chkH = true := by decide +kernel
theorem ker_S : SL.all (fun q => Nat.blt q.1 (2 ^ 48) && q.1.testBit 0 && chkS q.1) = true := by decide +kernel
