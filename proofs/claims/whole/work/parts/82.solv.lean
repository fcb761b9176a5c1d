-- WHAT THE POOLS HOLD IS ENOUGH FOR WHAT THEY OWE
theorem ex_K (N : Nat) : ∃ K, 0 < K ∧ ∀ x, 0 < x → x ≤ N → x ∣ K := by
  induction N with
  | zero => exact ⟨1, by decide, fun x h1 h2 => by omega⟩
  | succ N ih =>
    obtain ⟨K, h1, h2⟩ := ih
    refine ⟨K * (N + 1), Nat.mul_pos h1 (by omega), fun x h3 h4 => ?_⟩
    by_cases e : x = N + 1
    · rw [e]; exact Nat.dvd_mul_left _ _
    · exact Nat.dvd_trans (h2 x h3 (by omega)) (Nat.dvd_mul_right _ _)
/-- a number that every price divides -/
noncomputable def KK : Nat := Classical.choose (ex_K 14706804615)
theorem KK_pos : 0 < KK := (Classical.choose_spec (ex_K 14706804615)).1
noncomputable def vK (x : Nat) : Nat := KK / x
theorem vK_mul {x : Nat} (h0 : 0 < x) (h : x ≤ 14706804615) : x * vK x = KK := Nat.mul_div_cancel' ((Classical.choose_spec (ex_K 14706804615)).2 x h0 h)
theorem vK_le {a b : Nat} (h : a ≤ b) (h0 : 0 < a) : vK b ≤ vK a := Nat.div_le_div_left h h0
theorem vK_sub {a b : Nat} (h0 : 0 < a) (hab : a ≤ b) (hb : b ≤ 14706804615) : a * b * (vK a - vK b) = (b - a) * KK := by
  have h1 := vK_mul h0 (Nat.le_trans hab hb)
  have h2 := vK_mul (Nat.lt_of_lt_of_le h0 hab) hb
  rw [Nat.mul_sub, Nat.sub_mul, Nat.mul_comm a b, Nat.mul_assoc b a (vK a), h1, Nat.mul_comm b a, Nat.mul_assoc a b (vK b), h2]
/-- what is lent between two prices, in parts of a token -/
noncomputable def phN (a b : Nat) : Nat := 4294967296 * 4294967296 * (vK a - vK b)
noncomputable def phF (a b : Nat) : Nat := KK * (b - a)
noncomputable def UU : Nat := KK * 4294967296
theorem UU_pos : 0 < UU := Nat.mul_pos KK_pos (by decide)
theorem near_up {L a b : Nat} (h0 : 0 < a) (hab : a ≤ b) (hb : b ≤ 14706804615) : L * phN a b ≤ UU * zNear true L a b := by
  have e := vK_sub h0 hab hb
  unfold zNear phN UU
  have hb0 : 0 < b := by omega
  have h1 := dv_t_ge (a := L * (b - a) * 4294967296) hb0
  generalize dv true (L * (b - a) * 4294967296) b = Y at *
  have h2 := dv_t_ge (a := Y) h0
  generalize dv true Y a = X at *
  have h3 : L * (b - a) * 4294967296 ≤ a * b * X := Nat.le_trans h1 (by rw [Nat.mul_comm a b, Nat.mul_assoc]; exact Nat.mul_le_mul_left b h2)
  have hp : 0 < a * b := Nat.mul_pos h0 hb0
  refine Nat.le_of_mul_le_mul_left ?_ hp
  have e1 : a * b * (L * (4294967296 * 4294967296 * (vK a - vK b))) = L * 4294967296 * 4294967296 * (a * b * (vK a - vK b)) := by
    generalize vK a - vK b = v
    grind
  rw [e1, e]
  have h4 := Nat.mul_le_mul_right (KK * 4294967296) h3
  have e2 : L * 4294967296 * 4294967296 * ((b - a) * KK) = L * (b - a) * 4294967296 * (KK * 4294967296) := by
    generalize b - a = v
    grind
  have e3 : a * b * (KK * 4294967296 * X) = a * b * X * (KK * 4294967296) := by grind
  rw [e2, e3]
  exact h4
theorem near_dn {L a b : Nat} (h0 : 0 < a) (hab : a ≤ b) (hb : b ≤ 14706804615) : UU * zNear false L a b ≤ L * phN a b := by
  have e := vK_sub h0 hab hb
  unfold zNear phN UU
  rw [dv_f, dv_f]
  have hb0 : 0 < b := by omega
  have h1 := Nat.mul_div_le (L * (b - a) * 4294967296) b
  generalize L * (b - a) * 4294967296 / b = Y at *
  have h2 := Nat.mul_div_le Y a
  generalize Y / a = X at *
  have h3 : a * b * X ≤ L * (b - a) * 4294967296 := Nat.le_trans (by rw [Nat.mul_comm a b, Nat.mul_assoc]; exact Nat.mul_le_mul_left b h2) h1
  have hp : 0 < a * b := Nat.mul_pos h0 hb0
  refine Nat.le_of_mul_le_mul_left ?_ hp
  have e1 : a * b * (L * (4294967296 * 4294967296 * (vK a - vK b))) = L * 4294967296 * 4294967296 * (a * b * (vK a - vK b)) := by
    generalize vK a - vK b = v
    grind
  rw [e1, e]
  have h4 := Nat.mul_le_mul_right (KK * 4294967296) h3
  have e2 : L * 4294967296 * 4294967296 * ((b - a) * KK) = L * (b - a) * 4294967296 * (KK * 4294967296) := by
    generalize b - a = v
    grind
  have e3 : a * b * (KK * 4294967296 * X) = a * b * X * (KK * 4294967296) := by grind
  rw [e2, e3]
  exact h4
theorem far_up {L a b : Nat} : L * phF a b ≤ UU * zFar true L a b := by
  unfold zFar phF UU
  have h1 := dv_t_ge (a := L * (b - a)) (d := 4294967296) (by decide)
  generalize dv true (L * (b - a)) 4294967296 = X at *
  have h2 := Nat.mul_le_mul_left KK h1
  have e1 : L * (KK * (b - a)) = KK * (L * (b - a)) := Nat.mul_left_comm _ _ _
  rw [e1, Nat.mul_assoc]
  exact h2
theorem far_dn {L a b : Nat} : UU * zFar false L a b ≤ L * phF a b := by
  unfold zFar phF UU
  rw [dv_f]
  have h1 := Nat.mul_div_le (L * (b - a)) 4294967296
  generalize L * (b - a) / 4294967296 = X at *
  have h2 := Nat.mul_le_mul_left KK h1
  have e1 : L * (KK * (b - a)) = KK * (L * (b - a)) := Nat.mul_left_comm _ _ _
  rw [e1, Nat.mul_assoc]
  exact h2
def cl (S a b : Nat) : Nat := max a (min S b)
/-- side 0 near, side 1 far: what a lent amount of 1 between two ticks is worth -/
noncomputable def ph (s S : Nat) (lo hi : Int) : Nat := if s = 0 then phN (cl S (rt (tx lo)) (rt (tx hi))) (rt (tx hi)) else phF (rt (tx lo)) (cl S (rt (tx lo)) (rt (tx hi)))
theorem ph_0 {S : Nat} {lo hi : Int} : ph 0 S lo hi = phN (cl S (rt (tx lo)) (rt (tx hi))) (rt (tx hi)) := if_pos rfl
theorem ph_1 {S : Nat} {lo hi : Int} : ph 1 S lo hi = phF (rt (tx lo)) (cl S (rt (tx lo)) (rt (tx hi))) := if_neg (by decide)
theorem cl_tk {S : Nat} {tz lo hi : Int} (h : TkOk S tz) (h1 : -40 ≤ lo) (hlh : lo < hi) (h2 : hi ≤ 40) : (tz < lo → S ≤ rt (tx lo)) ∧ (hi ≤ tz → rt (tx hi) ≤ S) ∧ (lo ≤ tz → rt (tx lo) ≤ S) ∧ (tz < hi → S ≤ rt (tx hi)) ∧ rt (tx lo) ≤ rt (tx hi) := by
  obtain ⟨k1, k2, k3, k4, k5, k6⟩ := h
  refine ⟨fun q => ?_, fun q => ?_, fun q => ?_, fun q => ?_, ?_⟩
  · exact Nat.le_trans (k6 (by omega)) (rt_le (by unfold tx; omega) (tx_le (by omega)))
  · exact Nat.le_trans (rt_le (by unfold tx; omega) (tx_le k2)) (k5 (by omega))
  · exact Nat.le_trans (rt_le (by unfold tx; omega) (tx_le k2)) (k5 (by omega))
  · exact Nat.le_trans (k6 (by omega)) (rt_le (by unfold tx; omega) (tx_le h2))
  · exact rt_le (by unfold tx; omega) (tx_le h2)
theorem rt_b {z : Int} (h2 : z ≤ 40) : 0 < rt (tx z) ∧ rt (tx z) ≤ 14706804615 := ⟨rt_pos (tx_le h2), Nat.le_trans (rt_hi h2) (by have := rt_top; omega)⟩
/-- the worth of a place, as the program rounds it -/
noncomputable def zW (s : Nat) (u : Bool) (L S : Nat) (tz lo hi : Int) : Nat := if s = 0 then zWN u L S tz lo hi else zWF u L S tz lo hi
theorem zW_up {s L S : Nat} {tz lo hi : Int} (hs : s < 2) (h : TkOk S tz) (h1 : -40 ≤ lo) (hlh : lo < hi) (h2 : hi ≤ 40) : L * ph s S lo hi ≤ UU * zW s true L S tz lo hi := by
  obtain ⟨c1, c2, c3, c4, c5⟩ := cl_tk h h1 hlh h2
  have b1 := rt_b (z := lo) (by omega)
  have b2 := rt_b h2
  have bS := h.2.2.1
  unfold zW
  rcases (show s = 0 ∨ s = 1 by omega) with e | e
  · subst e
    rw [if_pos rfl, ph_0]
    unfold zWN cl
    by_cases q1 : hi ≤ tz
    · rw [if_pos q1, Nat.min_eq_right (c2 q1), Nat.max_eq_right c5]
      unfold phN
      rw [Nat.sub_self]
      exact Nat.zero_le _
    · rw [if_neg q1]
      by_cases q2 : tz < lo
      · rw [if_pos q2, Nat.max_eq_left (Nat.le_trans (Nat.min_le_left _ _) (c1 q2))]
        exact near_up b1.1 c5 b2.2
      · rw [if_neg q2, Nat.min_eq_left (c4 (by omega)), Nat.max_eq_right (c3 (by omega))]
        exact near_up (by omega) (c4 (by omega)) b2.2
  · subst e
    rw [if_neg (by decide), ph_1]
    unfold zWF cl
    by_cases q2 : tz < lo
    · rw [if_pos q2, Nat.max_eq_left (Nat.le_trans (Nat.min_le_left _ _) (c1 q2))]
      unfold phF
      rw [Nat.sub_self]
      exact Nat.zero_le _
    · rw [if_neg q2]
      by_cases q1 : hi ≤ tz
      · rw [if_pos q1, Nat.min_eq_right (c2 q1), Nat.max_eq_right c5]
        exact far_up
      · rw [if_neg q1, Nat.min_eq_left (c4 (by omega)), Nat.max_eq_right (c3 (by omega))]
        exact far_up
theorem zW_dn {s L S : Nat} {tz lo hi : Int} (hs : s < 2) (h : TkOk S tz) (h1 : -40 ≤ lo) (hlh : lo < hi) (h2 : hi ≤ 40) : UU * zW s false L S tz lo hi ≤ L * ph s S lo hi := by
  obtain ⟨c1, c2, c3, c4, c5⟩ := cl_tk h h1 hlh h2
  have b1 := rt_b (z := lo) (by omega)
  have b2 := rt_b h2
  have bS := h.2.2.1
  unfold zW
  rcases (show s = 0 ∨ s = 1 by omega) with e | e
  · subst e
    rw [if_pos rfl, ph_0]
    unfold zWN cl
    by_cases q1 : hi ≤ tz
    · rw [if_pos q1, Nat.mul_zero]
      exact Nat.zero_le _
    · rw [if_neg q1]
      by_cases q2 : tz < lo
      · rw [if_pos q2, Nat.max_eq_left (Nat.le_trans (Nat.min_le_left _ _) (c1 q2))]
        exact near_dn b1.1 c5 b2.2
      · rw [if_neg q2, Nat.min_eq_left (c4 (by omega)), Nat.max_eq_right (c3 (by omega))]
        exact near_dn (by omega) (c4 (by omega)) b2.2
  · subst e
    rw [if_neg (by decide), ph_1]
    unfold zWF cl
    by_cases q2 : tz < lo
    · rw [if_pos q2, Nat.mul_zero]
      exact Nat.zero_le _
    · rw [if_neg q2]
      by_cases q1 : hi ≤ tz
      · rw [if_pos q1, Nat.min_eq_right (c2 q1), Nat.max_eq_right c5]
        exact far_dn
      · rw [if_neg q1, Nat.min_eq_left (c4 (by omega)), Nat.max_eq_right (c3 (by omega))]
        exact far_dn
/-- what one step takes in and pays out, for an amount of 1 -/
noncomputable def dIn (dn : Bool) (S P : Nat) : Nat := if dn = true then phN P S else phF S P
noncomputable def dOut (dn : Bool) (S P : Nat) : Nat := if dn = true then phF P S else phN S P
theorem zIn_up {dn : Bool} {L S P : Nat} (h0 : 0 < S) (h1 : 0 < P) (h2 : S ≤ 14706804615) (h : if dn = true then P ≤ S else S ≤ P) : L * dIn dn S P ≤ UU * zIn dn L S P := by
  cases dn
  · exact far_up
  · exact near_up h1 h h2
theorem zOut_dn' {dn : Bool} {L S P : Nat} (h0 : 0 < S) (h1 : 0 < P) (h2 : P ≤ 14706804615) (h : if dn = true then P ≤ S else S ≤ P) : UU * zOut dn L S P ≤ L * dOut dn S P := by
  cases dn
  · exact near_dn h0 h h2
  · exact far_dn
theorem phN_add {a b c : Nat} (h0 : 0 < a) (h1 : a ≤ b) (h2 : b ≤ c) : phN a c = phN b c + phN a b := by
  have e1 := vK_le h1 h0
  have e2 := vK_le h2 (by omega)
  unfold phN
  rw [← Nat.mul_add]
  congr 1
  omega
theorem phF_add {a b c : Nat} (h1 : a ≤ b) (h2 : b ≤ c) : phF a c = phF a b + phF b c := by
  unfold phF
  rw [← Nat.mul_add]
  congr 1
  omega
/-- a step's price and a place: as if only places in range moved -/
theorem ph_step {dn : Bool} {st : Nat → Bool} {S M nx T P : Nat} {tz lo hi : Int} (h : TkOk S tz) (hM : rt 0 ≤ M) (hM2 : M ≤ rt 80) (hMS : if dn = true then M < S else S < M) (hnx : nx = zNx dn st tz) (hTe : T = zTg dn nx M) (hrg : if dn = true then T ≤ P ∧ P ≤ S else S ≤ P ∧ P ≤ T) (h1 : -40 ≤ lo) (hlh : lo < hi) (h2 : hi ≤ 40) (s1 : st (tx lo) = true) (s2 : st (tx hi) = true) : ph (sdN dn) P lo hi = ph (sdN dn) S lo hi + (if lo ≤ tz ∧ tz < hi then dIn dn S P else 0) ∧ ph (sdN dn) S lo hi ≤ ph (sdN dn) P lo hi ∧ ph (1 - sdN dn) S lo hi = ph (1 - sdN dn) P lo hi + (if lo ≤ tz ∧ tz < hi then dOut dn S P else 0) := by
  obtain ⟨c1, c2, c3, c4, c5⟩ := cl_tk h h1 hlh h2
  obtain ⟨n1, n2, n3, n4⟩ := nx_ok (st := st) h hM hM2 hMS
  rw [← hnx] at n3 n4
  have k1 := h.1
  have k2 := h.2.1
  have bS := h.2.2.1
  have zl : ((tx lo : Nat) : Int) = lo + 40 := by unfold tx; omega
  have zh : ((tx hi : Nat) : Int) = hi + 40 := by unfold tx; omega
  have hn80 : nx ≤ 80 := by rw [hnx]; exact zNx_le k2
  have b1 := rt_b (z := lo) (by omega)
  cases dn
  · simp only [if_neg (show ¬ false = true by decide)] at n4 hrg n3 hMS
    have hTn : T ≤ rt nx := by rw [hTe, zTg_f]; exact Nat.min_le_left _ _
    rw [zNx_f] at hnx
    obtain ⟨u1, u2⟩ := nUp_st st (39 - tz).toNat (by omega)
    rw [← hnx] at u1 u2
    have hl : tz < lo → P ≤ rt (tx lo) := fun q => by
      have : nx ≤ tx lo := Nat.le_of_not_lt (fun q2 => by have := u2 (tx lo) (by omega) q2; rw [s1] at this; cases this)
      exact Nat.le_trans (Nat.le_trans hrg.2 hTn) (rt_le this (tx_le (by omega)))
    have hh : tz < hi → P ≤ rt (tx hi) := fun q => by
      have : nx ≤ tx hi := Nat.le_of_not_lt (fun q2 => by have := u2 (tx hi) (by omega) q2; rw [s2] at this; cases this)
      exact Nat.le_trans (Nat.le_trans hrg.2 hTn) (rt_le this (tx_le h2))
    show ph 1 P lo hi = ph 1 S lo hi + (if lo ≤ tz ∧ tz < hi then phF S P else 0) ∧ ph 1 S lo hi ≤ ph 1 P lo hi ∧ ph 0 S lo hi = ph 0 P lo hi + (if lo ≤ tz ∧ tz < hi then phN S P else 0)
    rw [ph_1, ph_1, ph_0, ph_0]
    unfold cl
    by_cases q1 : tz < lo
    · rw [if_neg (by omega), if_neg (by omega), Nat.max_eq_left (Nat.le_trans (Nat.min_le_left S _) (c1 q1)), Nat.max_eq_left (Nat.le_trans (Nat.min_le_left P _) (hl q1))]
      exact ⟨rfl, Nat.le_refl _, rfl⟩
    · by_cases q2 : hi ≤ tz
      · rw [if_neg (by omega), if_neg (by omega), Nat.min_eq_right (c2 q2), Nat.min_eq_right (Nat.le_trans (c2 q2) hrg.1)]
        exact ⟨rfl, Nat.le_refl _, rfl⟩
      · have a1 := c3 (by omega)
        have a2 := hh (by omega)
        have a3 := c4 (by omega)
        rw [if_pos ⟨by omega, by omega⟩, if_pos ⟨by omega, by omega⟩, Nat.min_eq_left a3, Nat.min_eq_left a2, Nat.max_eq_right a1, Nat.max_eq_right (Nat.le_trans a1 hrg.1)]
        have e1 := phF_add a1 hrg.1
        exact ⟨e1, by omega, phN_add (by omega) hrg.1 a2⟩
  · simp only [if_true] at n4 hrg n3 hMS
    have hTn : rt nx ≤ T := by rw [hTe, zTg_t]; exact Nat.le_max_left _ _
    have k3 := n1 rfl
    have hw : ((tx tz : Nat) : Int) = tz + 40 := by unfold tx; omega
    rw [zNx_t] at hnx
    obtain ⟨u1, u2⟩ := nDn_st st (tx tz)
    rw [← hnx] at u1 u2
    have hl : lo ≤ tz → rt (tx lo) ≤ P := fun q => by
      have : tx lo ≤ nx := Nat.le_of_not_lt (fun q2 => by have := u2 (tx lo) q2 (by omega); rw [s1] at this; cases this)
      exact Nat.le_trans (rt_le this hn80) (Nat.le_trans hTn hrg.1)
    have hh : hi ≤ tz → rt (tx hi) ≤ P := fun q => by
      have : tx hi ≤ nx := Nat.le_of_not_lt (fun q2 => by have := u2 (tx hi) q2 (by omega); rw [s2] at this; cases this)
      exact Nat.le_trans (rt_le this hn80) (Nat.le_trans hTn hrg.1)
    show ph 0 P lo hi = ph 0 S lo hi + (if lo ≤ tz ∧ tz < hi then phN P S else 0) ∧ ph 0 S lo hi ≤ ph 0 P lo hi ∧ ph 1 S lo hi = ph 1 P lo hi + (if lo ≤ tz ∧ tz < hi then phF P S else 0)
    rw [ph_1, ph_1, ph_0, ph_0]
    unfold cl
    by_cases q1 : tz < lo
    · rw [if_neg (by omega), if_neg (by omega), Nat.max_eq_left (Nat.le_trans (Nat.min_le_left S _) (c1 q1)), Nat.max_eq_left (Nat.le_trans (Nat.min_le_left P _) (Nat.le_trans hrg.2 (c1 q1)))]
      exact ⟨rfl, Nat.le_refl _, rfl⟩
    · by_cases q2 : hi ≤ tz
      · rw [if_neg (by omega), if_neg (by omega), Nat.min_eq_right (c2 q2), Nat.min_eq_right (hh q2)]
        exact ⟨rfl, Nat.le_refl _, rfl⟩
      · have a1 := hl (by omega)
        have a3 := c4 (by omega)
        rw [if_pos ⟨by omega, by omega⟩, if_pos ⟨by omega, by omega⟩, Nat.min_eq_left a3, Nat.min_eq_left (Nat.le_trans hrg.2 a3), Nat.max_eq_right a1, Nat.max_eq_right (Nat.le_trans a1 hrg.2)]
        have e1 := phN_add (by omega : 0 < P) hrg.2 a3
        exact ⟨e1, by omega, phF_add a1 hrg.2⟩

