/-! plain words: truth as an int, an int within bounds, counting -/
def zb (b : Bool) : Int32 := match b with
  | true => 1
  | false => 0
def zw (v lo hi : Int32) : Bool := decide (lo ≤ v) && decide (v ≤ hi)
theorem zb_t : zb true = 1 := rfl
theorem zb_f : zb false = 0 := rfl
theorem zb0 {b : Bool} : (zb b = 0) = (b = false) := by cases b <;> simp [zb]
theorem zb1 {b : Bool} : (zb b = 1) = (b = true) := by cases b <;> simp [zb]
theorem zbn {b : Bool} : (¬ b = false) = (b = true) := by cases b <;> simp
theorem zbm {b : Bool} : (¬ b = true) = (b = false) := by cases b <;> simp
theorem zb_or {b : Bool} : zb b = 0 ∨ zb b = 1 := by cases b <;> simp [zb]
theorem zb_nar {b : Bool} : vp_nar .boolean (zb b) = zb b := by cases b <;> decide +kernel
theorem zw_t {v lo hi : Int32} : (zw v lo hi = true) = (lo ≤ v ∧ v ≤ hi) := by simp [zw]
theorem z_le (a b : Int32) : a ≤ b ↔ a.toInt ≤ b.toInt := Int32.le_iff_toInt_le
theorem z_lt (a b : Int32) : a < b ↔ a.toInt < b.toInt := Int32.lt_iff_toInt_lt
theorem z_eq (a b : Int32) : a = b ↔ a.toInt = b.toInt := ⟨fun h => by rw [h], fun h => Int32.toInt_inj.mp h⟩
theorem z_nle {a b : Int32} : ¬ a ≤ b ↔ b < a := by rw [z_le, z_lt]; omega
theorem z_nlt {a b : Int32} : ¬ a < b ↔ b ≤ a := by rw [z_le, z_lt]; omega
theorem z_rng (x : Int32) : -2147483648 ≤ x.toInt ∧ x.toInt < 2147483648 := ⟨Int32.le_toInt x, Int32.toInt_lt x⟩
theorem z_add {x y : Int32} (h1 : -2147483648 ≤ x.toInt + y.toInt) (h2 : x.toInt + y.toInt < 2147483648) : (x + y).toInt = x.toInt + y.toInt := by
  rw [Int32.toInt_add]
  exact Int.bmod_eq_of_le (by omega) (by omega)
theorem z_sub {x y : Int32} (h1 : -2147483648 ≤ x.toInt - y.toInt) (h2 : x.toInt - y.toInt < 2147483648) : (x - y).toInt = x.toInt - y.toInt := by
  rw [Int32.toInt_sub]
  exact Int.bmod_eq_of_le (by omega) (by omega)
theorem z_mul {x y : Int32} (h1 : -2147483648 ≤ x.toInt * y.toInt) (h2 : x.toInt * y.toInt < 2147483648) : (x * y).toInt = x.toInt * y.toInt := by
  rw [Int32.toInt_mul]
  exact Int.bmod_eq_of_le (by omega) (by omega)
theorem z_idx {x : Int32} {n : Nat} (hn : n < 2 ^ 31) : zw x 0 (nI n - 1) = true ↔ ∃ j, j < n ∧ x = nI j := by
  rw [zw_t]
  have h1 : (nI n - 1).toInt = (n : Int) - 1 := by
    rw [z_sub, nI_toInt hn]
    · rfl
    · rw [nI_toInt hn]; show _ ≤ (n : Int) - 1; omega
    · rw [nI_toInt hn]; show (n : Int) - 1 < _; omega
  constructor
  · rintro ⟨ha, hb⟩
    rw [z_le] at ha hb
    rw [h1] at hb
    have h0 : (0 : Int32).toInt = 0 := rfl
    rw [h0] at ha
    refine ⟨x.toInt.toNat, by omega, ?_⟩
    rw [z_eq, nI_toInt (by omega)]
    omega
  · rintro ⟨j, hj, rfl⟩
    rw [z_le, z_le, h1, nI_toInt (by omega)]
    have h0 : (0 : Int32).toInt = 0 := rfl
    rw [h0]
    omega
/-- how many below n -/
def zc (f : Nat → Bool) : Nat → Nat
  | 0 => 0
  | n + 1 => zc f n + (if f n then 1 else 0)
theorem zc_le (f : Nat → Bool) : ∀ n, zc f n ≤ n
  | 0 => Nat.le_refl _
  | n + 1 => by
    have h := zc_le f n
    simp only [zc]
    split <;> omega
theorem zc_t {f : Nat → Bool} {n : Nat} (h : f n = true) : zc f (n + 1) = zc f n + 1 := by simp [zc, h]
theorem zc_f {f : Nat → Bool} {n : Nat} (h : ¬ f n = true) : zc f (n + 1) = zc f n := by simp [zc, h]
theorem z_in {j n : Nat} (h : j < n) (hn : n < 2 ^ 31) : vp_in (nI j) n := vp_in_nI h hn
theorem z_cl {j : Nat} (h : j < 2 ^ 31) : (nI j).toNatClampNeg = j := nI_clamp h
theorem z_0 : (0 : Int32) = nI 0 := nI_0.symm
theorem z_in0 {n : Nat} (h : 0 < n) (hn : n < 2 ^ 31) : vp_in 0 n := by rw [z_0]; exact vp_in_nI h hn
theorem z_ne {j : Nat} (h : j < 2 ^ 31) : ¬ nI j = -1 := by
  rw [z_eq, nI_toInt h]
  have h0 : (-1 : Int32).toInt = -1 := by decide
  rw [h0]; omega
/-- none: -1 -/
def zo (o : Option Nat) : Int32 := match o with
  | none => -1
  | some j => nI j
/-- which of two goes first: the greater charge, of equal ones the less age, of equal ones the elder -/
def za (ch ag : Nat → Int32) (o : Option Nat) (p : Nat) : Option Nat := match o with
  | none => some p
  | some q => if decide (ch q < ch p) || (decide (ch p = ch q) && decide (ag p < ag q)) then some p else some q
def zp (e : Nat → Bool) (ch ag : Nat → Int32) : Nat → Option Nat
  | 0 => none
  | n + 1 => if e n then za ch ag (zp e ch ag n) n else zp e ch ag n
theorem za_lt {ch ag : Nat → Int32} {o : Option Nat} {p n : Nat} (ho : ∀ q, o = some q → q < n) (hp : p < n) : ∀ q, za ch ag o p = some q → q < n := by
  intro q h
  unfold za at h
  cases o with
  | none => cases h; exact hp
  | some t =>
    dsimp only at h
    split at h
    · cases h; exact hp
    · cases h; exact ho _ rfl
theorem zp_lt {e : Nat → Bool} {ch ag : Nat → Int32} : ∀ {n q : Nat}, zp e ch ag n = some q → q < n
  | 0, _, h => by cases h
  | n + 1, q, h => by
    unfold zp at h
    split at h
    · exact za_lt (n := n + 1) (fun t ht => Nat.lt_succ_of_lt (zp_lt ht)) (Nat.lt_succ_self n) q h
    · exact Nat.lt_succ_of_lt (zp_lt h)
theorem zp_t {e : Nat → Bool} {ch ag : Nat → Int32} {n : Nat} (h : e n = true) : zp e ch ag (n + 1) = za ch ag (zp e ch ag n) n := by simp [zp, h]
theorem zp_f {e : Nat → Bool} {ch ag : Nat → Int32} {n : Nat} (h : e n = false) : zp e ch ag (n + 1) = zp e ch ag n := by simp [zp, h]
/-- a pack is fit, is ready -/
def zF (ag sk se : Nat → Int32) (j : Nat) : Bool := decide (sk j = 0) && decide (ag j < se 0)
def zR (ch ag sk hm se : Nat → Int32) (j : Nat) : Bool := !decide (hm j = -1) && (zF ag sk se j && decide (se 1 ≤ ch j))
theorem zn0 {b : Bool} : (¬ zb b = 0) = (b = true) := by cases b <;> simp [zb]
theorem upd_same {f : Nat → Int32} {j : Nat} {v : Int32} : upd f j v j = v := by simp [upd]
theorem upd_ne {f : Nat → Int32} {i j : Nat} {v : Int32} (h : i ≠ j) : upd f j v i = f i := by simp [upd, h]
theorem z_xor (a b : Nat) : nI a ^^^ nI b = nI (a ^^^ b) := by
  apply Int32.toBitVec_inj.mp
  simp [nI, Int32.toBitVec_xor, Int32.toBitVec_ofNat, BitVec.ofNat_xor]
theorem z_down {P : Nat → Prop} {n : Nat} (hn : P n) (hs : ∀ i, i < n → P (i + 1) → P i) : P 0 := by
  have key : ∀ k i, i + k = n → P i := by
    intro k
    induction k with
    | zero =>
      intro i hi
      have : i = n := by omega
      subst this
      exact hn
    | succ k ih =>
      intro i hi
      exact hs i (by omega) (ih (i + 1) (by omega))
  exact key n 0 (by omega)
theorem z_nn {a : Nat} (h : a < 2 ^ 31) : nI a ≤ nI a := nI_le (Nat.le_refl _) h
theorem z_vin {c : Int32} {n m : Nat} (h : zw c 0 (nI n - 1) = true) (hn : n ≤ m) (hm : m < 2 ^ 31) : vp_in c m := by
  obtain ⟨j, hj, rfl⟩ := (z_idx (by omega)).mp h
  exact z_in (by omega) hm
theorem z_cln {c : Int32} {n : Nat} (h : zw c 0 (nI n - 1) = true) (hn : n < 2 ^ 31) : c.toNatClampNeg < n ∧ c = nI c.toNatClampNeg := by
  obtain ⟨j, hj, rfl⟩ := (z_idx hn).mp h
  rw [z_cl (by omega)]
  exact ⟨hj, rfl⟩
/-- a slot is left; a pack may come back -/
def gSlot (nc n : Nat) (hm sl : Nat → Int32) (c : Int32) : Bool := zw c 0 (nI nc - 1) && decide (nI (zc (fun p => decide (hm p = c)) n) < sl c.toNatClampNeg)
def gBack (n : Nat) (ch hm : Nat → Int32) (p v : Int32) : Bool := zw p 0 (nI n - 1) && (decide (hm p.toNatClampNeg = -1) && zw v 0 (ch p.toNatClampNeg))
def gGiv (nc n : Nat) (ch ag sk hm se : Nat → Int32) (c : Int32) : Option Nat := if zw c 0 (nI nc - 1) then zp (fun p => decide (hm p = c) && zR ch ag sk hm se p) ch ag n else none
def zout (σ : iv_S) (k : Nat) (o : Option Nat) : iv_S := match o with
  | none => σ
  | some q => iv_u σ k q (-1)
theorem gGiv_lt {nc n : Nat} {ch ag sk hm se : Nat → Int32} {c : Int32} {q : Nat} (h : gGiv nc n ch ag sk hm se c = some q) : q < n := by
  unfold gGiv at h
  split at h
  · exact zp_lt h
  · cases h
theorem gGiv_in {nc n : Nat} {ch ag sk hm se : Nat → Int32} {c : Int32} {q : Nat} (h : gGiv nc n ch ag sk hm se c = some q) : zw c 0 (nI nc - 1) = true := by
  unfold gGiv at h
  split at h
  · next hz => exact hz
  · cases h
theorem gBack_in {n : Nat} {ch hm : Nat → Int32} {p v : Int32} (h : gBack n ch hm p v = true) : zw p 0 (nI n - 1) = true := by
  unfold gBack at h
  exact (Bool.and_eq_true_iff.mp h).1
theorem z7 (n : Nat) : (7 : Int32) * nI n = nI (7 * n) := pk_mul 7 n
theorem za2 (n : Nat) : nI n + 2 = nI (n + 2) := nI_add n 2
theorem za3 (n : Nat) : nI n + 3 = nI (n + 3) := nI_add n 3
theorem za4 (n : Nat) : nI n + 4 = nI (n + 4) := nI_add n 4
theorem za5 (n : Nat) : nI n + 5 = nI (n + 5) := nI_add n 5
theorem za6 (n : Nat) : nI n + 6 = nI (n + 6) := nI_add n 6
