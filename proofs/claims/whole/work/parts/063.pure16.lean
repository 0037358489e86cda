/-! ===== pure: the model's first row ===== -/
def zS0 : Int → Int := uZ (uZ (uZ (uZ (uZ (uZ (uZ (fun _ => 0) 0 1) 1 20) 2 8) 3 60) 4 1) 5 15) 6 300
theorem dgR_0 (f g : Int → Int) (h : Int64) : dgR f g (Int.toNat 0) h = h := rfl
