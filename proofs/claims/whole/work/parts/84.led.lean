-- THE LEDGER: who has how much, what is held
def hsT (h : Nat → Nat → Nat) (t : Nat) : Nat := if t = 0 then h 0 0 else if t = 1 then h 0 1 + h 1 0 else h 1 1
def updH (h : Nat → Nat → Nat) (p s x : Nat) : Nat → Nat → Nat := fun a b => if a = p ∧ b = s then x else h a b
theorem updH_s {h : Nat → Nat → Nat} {p s x : Nat} : updH h p s x p s = x := if_pos ⟨rfl, rfl⟩
theorem updH_n {h : Nat → Nat → Nat} {p s x a b : Nat} (e : ¬ (a = p ∧ b = s)) : updH h p s x a b = h a b := if_neg e
theorem hsT_upd {h : Nat → Nat → Nat} {p s x : Nat} (hp : p < 2) (hs : s < 2) : hsT (updH h p s x) (p + s) + h p s = hsT h (p + s) + x ∧ ∀ t, t ≠ p + s → t < 3 → hsT (updH h p s x) t = hsT h t := by
  rcases (show p = 0 ∨ p = 1 by omega) with e | e <;> rcases (show s = 0 ∨ s = 1 by omega) with e2 | e2 <;> subst e <;> subst e2
  · refine ⟨?_, fun t h1 h2 => ?_⟩
    · show updH h 0 0 x 0 0 + h 0 0 = h 0 0 + x
      rw [updH_s]; omega
    · unfold hsT
      rw [if_neg h1, if_neg h1, updH_n (by omega), updH_n (by omega), updH_n (by omega)]
  · refine ⟨?_, fun t h1 h2 => ?_⟩
    · show updH h 0 1 x 0 1 + updH h 0 1 x 1 0 + h 0 1 = h 0 1 + h 1 0 + x
      rw [updH_s, updH_n (by omega)]; omega
    · have h3 : ¬ t = 1 := h1
      unfold hsT
      rw [if_neg h3, if_neg h3, updH_n (by omega), updH_n (by omega)]
  · refine ⟨?_, fun t h1 h2 => ?_⟩
    · show updH h 1 0 x 0 1 + updH h 1 0 x 1 0 + h 1 0 = h 0 1 + h 1 0 + x
      rw [updH_s, updH_n (by omega)]; omega
    · have h3 : ¬ t = 1 := h1
      unfold hsT
      rw [if_neg h3, if_neg h3, updH_n (by omega), updH_n (by omega)]
  · refine ⟨?_, fun t h1 h2 => ?_⟩
    · show updH h 1 1 x 1 1 + h 1 1 = h 1 1 + x
      rw [updH_s]; omega
    · have h3 : t = 0 ∨ t = 1 := by omega
      rcases h3 with e | e
      · subst e
        show updH h 1 1 x 0 0 = h 0 0
        rw [updH_n (by omega)]
      · subst e
        show updH h 1 1 x 0 1 + updH h 1 1 x 1 0 = h 0 1 + h 1 0
        rw [updH_n (by omega), updH_n (by omega)]
theorem hsT_ge {h : Nat → Nat → Nat} {p s : Nat} (hp : p < 2) (hs : s < 2) : h p s ≤ hsT h (p + s) := by
  have := (hsT_upd (h := h) (x := 0) hp hs).1
  omega
def bsum (bn : Nat → Nat) (t : Nat) : Nat := bn t + bn (3 + t) + bn (6 + t) + bn (9 + t)
theorem bsum_upd {bn : Nat → Nat} {a t x : Nat} (ha : a < 4) (ht : t < 3) : bsum (updN bn (a * 3 + t) x) t + bn (a * 3 + t) = bsum bn t + x ∧ ∀ u, u ≠ t → u < 3 → bsum (updN bn (a * 3 + t) x) u = bsum bn u := by
  unfold bsum
  refine ⟨?_, fun u h1 h2 => ?_⟩
  · rcases (show a = 0 ∨ a = 1 ∨ a = 2 ∨ a = 3 by omega) with e | e | e | e <;> subst e
    · rw [show 0 * 3 + t = t by omega, updN_s, updN_n (by omega), updN_n (by omega), updN_n (by omega)]; omega
    · rw [show 1 * 3 + t = 3 + t by omega, updN_s, updN_n (by omega), updN_n (by omega), updN_n (by omega)]; omega
    · rw [show 2 * 3 + t = 6 + t by omega, updN_s, updN_n (by omega), updN_n (by omega), updN_n (by omega)]; omega
    · rw [show 3 * 3 + t = 9 + t by omega, updN_s, updN_n (by omega), updN_n (by omega), updN_n (by omega)]; omega
  · rw [updN_n (by omega), updN_n (by omega), updN_n (by omega), updN_n (by omega)]
theorem bsum_ge {bn : Nat → Nat} {a t : Nat} (ha : a < 4) (ht : t < 3) : bn (a * 3 + t) ≤ bsum bn t := by
  have := (bsum_upd (bn := bn) (x := 0) ha ht).1
  omega
def Led (bal giv hol : Nat → Int64) (h : Nat → Nat → Nat) : Prop := ∃ bn gn : Nat → Nat, (∀ j, j < 12 → bal j = lN (bn j)) ∧ (∀ t, t < 3 → giv t = lN (gn t) ∧ gn t ≤ 100000000) ∧ (∀ t, t < 3 → hol t = lN (hsT h t)) ∧ ∀ t, t < 3 → bsum bn t + hsT h t = gn t
theorem led_le {bal giv hol : Nat → Int64} {h : Nat → Nat → Nat} {p s : Nat} (hL : Led bal giv hol h) (hp : p < 2) (hs : s < 2) : h p s ≤ 100000000 := by
  obtain ⟨bn, gn, h1, h2, h3, h4⟩ := hL
  have := h4 (p + s) (by omega)
  have := (h2 (p + s) (by omega)).2
  have := hsT_ge (h := h) hp hs
  omega
theorem led_in {bal giv hol : Nat → Int64} {h : Nat → Nat → Nat} {a p s x : Nat} (hL : Led bal giv hol h) (ha : a < 4) (hp : p < 2) (hs : s < 2) (hx : x < 2 ^ 63) (hb : ¬ bal (a * 3 + (p + s)) < lN x) : Led (vp_updL bal (a * 3 + (p + s)) (bal (a * 3 + (p + s)) - lN x)) giv (vp_updL hol (p + s) (hol (p + s) + lN x)) (updH h p s (h p s + x)) := by
  obtain ⟨bn, gn, h1, h2, h3, h4⟩ := hL
  have e1 := h1 (a * 3 + (p + s)) (by omega)
  have e2 := bsum_ge (bn := bn) ha (show p + s < 3 by omega)
  have e3 := h4 (p + s) (by omega)
  have e4 := (h2 (p + s) (by omega)).2
  have e5 : x ≤ bn (a * 3 + (p + s)) := Nat.le_of_not_lt (fun q => hb (by rw [e1]; exact (pk_lLT (by omega) hx).mpr q))
  obtain ⟨u1, u2⟩ := bsum_upd (bn := bn) (x := bn (a * 3 + (p + s)) - x) ha (show p + s < 3 by omega)
  obtain ⟨v1, v2⟩ := hsT_upd (h := h) (x := h p s + x) hp hs
  refine ⟨updN bn (a * 3 + (p + s)) (bn (a * 3 + (p + s)) - x), gn, fun j hj => ?_, h2, fun t ht => ?_, fun t ht => ?_⟩
  · by_cases e : j = a * 3 + (p + s)
    · subst e
      rw [pk_usL, updN_s, e1, lN_sub e5]
    · rw [pk_unL e, updN_n e]
      exact h1 j hj
  · by_cases e : t = p + s
    · subst e
      rw [pk_usL, h3 _ ht, lN_add]
      congr 1
      omega
    · rw [pk_unL e, v2 t e ht]
      exact h3 t ht
  · by_cases e : t = p + s
    · subst e
      omega
    · rw [u2 t e ht, v2 t e ht]
      exact h4 t ht
theorem led_out {bal giv hol : Nat → Int64} {h : Nat → Nat → Nat} {a p s x : Nat} (hL : Led bal giv hol h) (ha : a < 4) (hp : p < 2) (hs : s < 2) (hx : x ≤ h p s) : Led (vp_updL bal (a * 3 + (p + s)) (bal (a * 3 + (p + s)) + lN x)) giv (vp_updL hol (p + s) (hol (p + s) - lN x)) (updH h p s (h p s - x)) := by
  obtain ⟨bn, gn, h1, h2, h3, h4⟩ := hL
  have e1 := h1 (a * 3 + (p + s)) (by omega)
  have e3 := h4 (p + s) (by omega)
  have e6 := hsT_ge (h := h) hp hs
  obtain ⟨u1, u2⟩ := bsum_upd (bn := bn) (x := bn (a * 3 + (p + s)) + x) ha (show p + s < 3 by omega)
  obtain ⟨v1, v2⟩ := hsT_upd (h := h) (x := h p s - x) hp hs
  refine ⟨updN bn (a * 3 + (p + s)) (bn (a * 3 + (p + s)) + x), gn, fun j hj => ?_, h2, fun t ht => ?_, fun t ht => ?_⟩
  · by_cases e : j = a * 3 + (p + s)
    · subst e
      rw [pk_usL, updN_s, e1, lN_add]
    · rw [pk_unL e, updN_n e]
      exact h1 j hj
  · by_cases e : t = p + s
    · subst e
      rw [pk_usL, h3 _ ht, lN_sub (by omega)]
      congr 1
      omega
    · rw [pk_unL e, v2 t e ht]
      exact h3 t ht
  · by_cases e : t = p + s
    · subst e
      omega
    · rw [u2 t e ht, v2 t e ht]
      exact h4 t ht
theorem led_give {bal giv hol : Nat → Int64} {h : Nat → Nat → Nat} {a t X : Nat} (hL : Led bal giv hol h) (ha : a < 4) (ht : t < 3) (hX : X < 2 ^ 31) (hg : giv t + lN X ≤ 100000000) : Led (vp_updL bal (a * 3 + t) (bal (a * 3 + t) + lN X)) (vp_updL giv t (giv t + lN X)) hol h := by
  obtain ⟨bn, gn, h1, h2, h3, h4⟩ := hL
  obtain ⟨u1, u2⟩ := bsum_upd (bn := bn) (x := bn (a * 3 + t) + X) ha ht
  obtain ⟨g1, g2⟩ := h2 t ht
  have g3 : gn t + X ≤ 100000000 := by
    rw [g1, lN_add] at hg
    exact (pk_lLE (b := 100000000) (by omega) (by decide)).mp hg
  refine ⟨updN bn (a * 3 + t) (bn (a * 3 + t) + X), updN gn t (gn t + X), fun j hj => ?_, fun u hu => ?_, h3, fun u hu => ?_⟩
  · by_cases e : j = a * 3 + t
    · subst e
      rw [pk_usL, updN_s, h1 _ hj, lN_add]
    · rw [pk_unL e, updN_n e]
      exact h1 j hj
  · by_cases e : u = t
    · subst e
      rw [pk_usL, updN_s, g1, lN_add]
      exact ⟨rfl, g3⟩
    · rw [pk_unL e, updN_n e]
      exact h2 u hu
  · by_cases e : u = t
    · subst e
      have := h4 u hu
      rw [updN_s]
      omega
    · rw [u2 u e hu, updN_n e]
      exact h4 u hu

