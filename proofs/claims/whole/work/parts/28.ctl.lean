theorem iv_ctl {X : iv_X} {d : Nat} {y : iv_M} {b : iv_B} {own : String} {Q : Int32 → iv_S → Prop} {av : List iv_V} {σ : iv_S} {ls : iv_Ls} (hy : plainFor y.1 = true) (hyc : y.1.cls = own) (hok : iv_ok own b) (hlen : av.length ≤ y.2.2.1) (hls : av.map some ++ List.replicate (y.2.2.1 - av.length) none = ls)
    (h : iv_Sf X d y b Q 0 ls [] σ) : iv_Ct X y (d + 1) av σ Q := iv_ct hy hyc hok hlen (by rw [hls]; exact h)
theorem ie_10 : ((1 : Int32) = 0) = False := by decide
theorem ie_m10 : ((-1 : Int32) = 0) = False := by decide
theorem ie_mm : ((-1 : Int32) = -1) = True := by decide
theorem pf_min : plainFor yJ9_min_7cf53 = true := by decide +kernel
theorem pf_max : plainFor yJ9_max_7cf53 = true := by decide +kernel
theorem pf_abs : plainFor yJ9_abs_0f7a4 = true := by decide +kernel
theorem pf_floorMod : plainFor yJ9_floorMod_7cf53 = true := by decide +kernel
