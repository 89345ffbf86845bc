/-! ===== the class as a whole: its digest ===== -/
theorem mx_is (h : Int64) (v : Int) : 31 * h + (Int32.ofInt v).toInt64 = mx h v := rfl
theorem dOps_s (S : SC) (v : Int) (n : Nat) (h : Int64) : dOps S v (n + 1) h = mx (mxl (opRR S v n) 3 (dOps S v n h)) (usRR S v n) := rfl
theorem dNds_s (S : SC) (n : Nat) (h : Int64) : dNds S (n + 1) h = dNd S n (dNds S n h) := rfl
theorem dNds_0 (S : SC) (h : Int64) : dNds S 0 h = h := rfl
theorem dPo_0 (m : MO) (h : Int64) : dPo m 0 h = h := rfl
theorem dPo_s (m : MO) (n : Nat) (h : Int64) : dPo m (n + 1) h = mx (mx (dPo m n h) (poRR m n 0)) (poRR m n 1) := rfl
