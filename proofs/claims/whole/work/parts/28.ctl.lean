theorem iv_ctl {X : iv_X} {d : Nat} {y : iv_M} {b : iv_B} {own : String} {Q : Int32 → iv_S → Prop} {av : List iv_V} {σ : iv_S} {ls : iv_Ls} (hy : plainFor y.1 = true) (hyc : y.1.cls = own) (hok : iv_ok own b) (hlen : av.length ≤ y.2.2.1) (hls : av.map some ++ List.replicate (y.2.2.1 - av.length) none = ls)
    (h : iv_Sf X d y b Q 0 ls [] σ) : iv_Ct X y (d + 1) av σ Q := iv_ct hy hyc hok hlen (by rw [hls]; exact h)
theorem ie_10 : ((1 : Int32) = 0) = False := by decide
theorem ie_m10 : ((-1 : Int32) = 0) = False := by decide
theorem ie_mm : ((-1 : Int32) = -1) = True := by decide
theorem pf_min : plainFor yJ9_min_7cf53 = true := by decide +kernel
theorem pf_max : plainFor yJ9_max_7cf53 = true := by decide +kernel
theorem pf_abs : plainFor yJ9_abs_0f7a4 = true := by decide +kernel
theorem pf_floorMod : plainFor yJ9_floorMod_7cf53 = true := by decide +kernel
theorem ie_cl0 : Int32.toNatClampNeg 0 = 0 := by decide +kernel
theorem ie_cl1 : Int32.toNatClampNeg 1 = 1 := by decide +kernel
theorem ie_cl2 : Int32.toNatClampNeg 2 = 2 := by decide +kernel
theorem ie_cl3 : Int32.toNatClampNeg 3 = 3 := by decide +kernel
theorem ie_cl4 : Int32.toNatClampNeg 4 = 4 := by decide +kernel
theorem ie_cl5 : Int32.toNatClampNeg 5 = 5 := by decide +kernel
theorem ie_cl6 : Int32.toNatClampNeg 6 = 6 := by decide +kernel
theorem ie_cl7 : Int32.toNatClampNeg 7 = 7 := by decide +kernel
theorem ie_cl8 : Int32.toNatClampNeg 8 = 8 := by decide +kernel
theorem ie_v5_0 : vp_in 0 5 = True := eq_true (show ¬ (_ ∨ _) by decide +kernel)
theorem ie_v5_1 : vp_in 1 5 = True := eq_true (show ¬ (_ ∨ _) by decide +kernel)
theorem ie_v5_2 : vp_in 2 5 = True := eq_true (show ¬ (_ ∨ _) by decide +kernel)
theorem ie_v5_3 : vp_in 3 5 = True := eq_true (show ¬ (_ ∨ _) by decide +kernel)
theorem ie_v5_4 : vp_in 4 5 = True := eq_true (show ¬ (_ ∨ _) by decide +kernel)
theorem ie_v6_0 : vp_in 0 6 = True := eq_true (show ¬ (_ ∨ _) by decide +kernel)
theorem ie_v8_0 : vp_in 0 8 = True := eq_true (show ¬ (_ ∨ _) by decide +kernel)
theorem ie_v12_0 : vp_in 0 12 = True := eq_true (show ¬ (_ ∨ _) by decide +kernel)
theorem ie_v24_0 : vp_in 0 24 = True := eq_true (show ¬ (_ ∨ _) by decide +kernel)
theorem ie_v30_0 : vp_in 0 30 = True := eq_true (show ¬ (_ ∨ _) by decide +kernel)
theorem ie_v3380_0 : vp_in 0 3380 = True := eq_true (show ¬ (_ ∨ _) by decide +kernel)
