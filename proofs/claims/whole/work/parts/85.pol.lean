-- WHAT THE POOLS OWE
theorem jushr_N {n : Nat} (h : n < 2 ^ 64) : jushr (lN n) 32 = lN (n / 4294967296) := wb_shr (k := 32) h (by decide)
theorem shr_N {fa l : Nat} (h1 : fa < 2 ^ 63) (h2 : l < 2 ^ 31) : shr (lN fa) (lN l) = lN (l * fa / 4294967296) := by
  unfold shr
  rw [jushr_N (by omega), show (4294967295 : Int64) = lN (2 ^ 32 - 1) from by decide, wb_mask (by omega) (by decide), lN_mul, lN_mul]
  have h3 : fa % 2 ^ 32 * l < 2 ^ 64 := by
    have e1 : fa % 2 ^ 32 < 2 ^ 32 := Nat.mod_lt _ (by decide)
    have e2 : fa % 2 ^ 32 * l ≤ 2 ^ 32 * l := Nat.mul_le_mul_right _ (by omega)
    omega
  rw [jushr_N h3, lN_add]
  congr 1
  have e := Nat.div_add_mod fa 4294967296
  rw [show (2 : Nat) ^ 32 = 4294967296 from by decide]
  have e2 : l * fa = 4294967296 * (fa / 4294967296 * l) + fa % 4294967296 * l := by
    generalize fa / 4294967296 = a at *
    generalize fa % 4294967296 = b at *
    rw [← e]
    grind
  rw [e2, Nat.mul_add_div (by decide)]
def sm (f : Nat → Nat) : Nat → Nat
  | 0 => 0
  | k + 1 => sm f k + f k
theorem sm_q {f f' : Nat → Nat} {q n : Nat} (hq : q < n) (h : ∀ i, i < n → i ≠ q → f' i = f i) : sm f' n + f q = sm f n + f' q := by
  induction n with
  | zero => omega
  | succ n ih =>
    unfold sm
    by_cases e : q = n
    · subst e
      have : ∀ k, k ≤ q → sm f' k = sm f k := fun k => by
        induction k with
        | zero => intro _; rfl
        | succ k ih2 => intro hk; unfold sm; rw [ih2 (by omega), h k (by omega) (by omega)]
      rw [this q (Nat.le_refl _)]
      omega
    · have h1 := ih (by omega) (fun i a => h i (by omega))
      have h2 := h n (by omega) (by omega)
      omega
theorem sm_c {f f' : Nat → Nat} (n : Nat) (h : ∀ i, i < n → f' i = f i) : sm f' n = sm f n := by
  induction n with
  | zero => rfl
  | succ n ih => unfold sm; rw [ih (fun i a => h i (by omega)), h n (by omega)]
theorem sm_ge {f : Nat → Nat} {q n : Nat} (hq : q < n) : f q ≤ sm f n := by
  have := sm_q (f := f) (f' := fun i => if i = q then 0 else f i) hq (fun i _ e => if_neg e)
  simp only [if_true] at this
  omega
noncomputable def ob (Z : ZS) (od fa : Nat → Nat) (p s i : Nat) : Nat := if zpl Z i = p then zam Z i * ph s (zpr Z p) (zlo Z i) (zhi Z i) + UU * od (2 * i + s) + KK * (zam Z i * fa (2 * i + s)) else 0
def Pol (Z : ZS) (h : Nat → Nat → Nat) (od fa : Nat → Nat) : Prop := (∀ j, j < 24 → zod Z j = lN (od j)) ∧ (∀ i, i < 12 → 0 < zam Z i → ∀ s, s < 2 → zfa Z (2 * i + s) = lN (fa (2 * i + s))) ∧ ∀ p, p < 2 → ∀ s, s < 2 → sm (ob Z od fa p s) 12 ≤ UU * h p s
theorem ob_t {Z : ZS} {od fa : Nat → Nat} {p s i : Nat} (h : zpl Z i = p) : ob Z od fa p s i = zam Z i * ph s (zpr Z p) (zlo Z i) (zhi Z i) + UU * od (2 * i + s) + KK * (zam Z i * fa (2 * i + s)) := if_pos h
theorem ob_f {Z : ZS} {od fa : Nat → Nat} {p s i : Nat} (h : ¬ zpl Z i = p) : ob Z od fa p s i = 0 := if_neg h
def Solv (Z : ZS) : Prop := ∃ h od fa, Led (zbal Z) (zgiv Z) (zhol Z) h ∧ Pol Z h od fa
theorem U_le {a b : Nat} (h : UU * a ≤ UU * b) : a ≤ b := Nat.le_of_mul_le_mul_left h UU_pos
/-- what is owed at a place, and what fell to it, is held -/
theorem od_le {Z : ZS} {h : Nat → Nat → Nat} {od fa : Nat → Nat} {p s i : Nat} (hP : Pol Z h od fa) (hi : i < 12) (hp : p < 2) (hpl : zpl Z i = p) (hs : s < 2) : od (2 * i + s) ≤ h p s := by
  have h1 := hP.2.2 p hp s hs
  have h2 := sm_ge (f := ob Z od fa p s) hi
  rw [ob_t hpl] at h2
  exact U_le (by omega)
theorem fa_le {Z : ZS} {h : Nat → Nat → Nat} {od fa : Nat → Nat} {p s i : Nat} (hP : Pol Z h od fa) (hi : i < 12) (hp : p < 2) (hpl : zpl Z i = p) (hs : s < 2) (hb : h p s ≤ 100000000) (ha : 0 < zam Z i) : fa (2 * i + s) < 2 ^ 63 := by
  have h1 := hP.2.2 p hp s hs
  have h2 := sm_ge (f := ob Z od fa p s) hi
  rw [ob_t hpl] at h2
  have h3 : KK * (zam Z i * fa (2 * i + s)) ≤ KK * (4294967296 * h p s) := by
    have e : UU * h p s = KK * (4294967296 * h p s) := by unfold UU; rw [Nat.mul_assoc]
    omega
  have h4 := Nat.le_of_mul_le_mul_left h3 KK_pos
  have h5 : fa (2 * i + s) ≤ zam Z i * fa (2 * i + s) := Nat.le_mul_of_pos_left _ ha
  have h6 : 4294967296 * h p s ≤ 4294967296 * 100000000 := Nat.mul_le_mul_left _ hb
  omega
theorem shr_a {Z : ZS} {h : Nat → Nat → Nat} {od fa : Nat → Nat} {s i : Nat} (hP : Pol Z h od fa) (hA : zam Z i ≤ 50000000) (hi : i < 12) (hp : zpl Z i < 2) (hs : s < 2) (hb : h (zpl Z i) s ≤ 100000000) : shr (zfa Z (2 * i + s)) (lN (zam Z i)) = lN (zam Z i * fa (2 * i + s) / 4294967296) := by
  rcases Nat.eq_zero_or_pos (zam Z i) with e | e
  · rw [e, Nat.zero_mul, Nat.zero_div]
    exact shr_0 _
  · rw [hP.2.1 i hi e s hs]
    exact shr_N (fa_le hP hi hp rfl hs hb e) (by omega)
def faZ (q : Nat) (fa : Nat → Nat) (j : Nat) : Nat := if j / 2 = q then 0 else fa j
theorem faZ_n {q i s : Nat} {fa : Nat → Nat} (h : i ≠ q) (hs : s < 2) : faZ q fa (2 * i + s) = fa (2 * i + s) := if_neg (by omega)
theorem faZ_z {q s : Nat} {fa : Nat → Nat} (hs : s < 2) : faZ q fa (2 * q + s) = 0 := if_pos (by omega)
/-- one place changes -/
theorem Pol_place {Z Z' : ZS} {h h' : Nat → Nat → Nat} {od od' fa : Nat → Nat} {p q : Nat} {lo hi : Int} {Y : Nat → Nat} (hU : PlUp Z Z' p q lo hi) (hq : q < 12) (hP : Pol Z h od fa) (hQ : (zpl Z q = p ∧ zlo Z q = lo ∧ zhi Z q = hi) ∨ (zam Z q = 0 ∧ od (2 * q) = 0 ∧ od (2 * q + 1) = 0)) (ho : ∀ i, i ≠ q → ∀ s, s < 2 → od' (2 * i + s) = od (2 * i + s)) (hz : ∀ i, i < 12 → ∀ s, s < 2 → zod Z' (2 * i + s) = lN (od' (2 * i + s))) (hh : ∀ s, s < 2 → UU * h p s + Y s ≤ UU * h' p s) (hh2 : ∀ r, r ≠ p → ∀ s, h' r s = h r s) (hc : ∀ s, s < 2 → zam Z' q * ph s (zpr Z p) lo hi + UU * od' (2 * q + s) ≤ zam Z q * ph s (zpr Z p) lo hi + UU * od (2 * q + s) + KK * (zam Z q * fa (2 * q + s)) + Y s) : Pol Z' h' od' (faZ q fa) := by
  have f2 : zpr Z' = zpr Z := congrArg (fun x => x.2.1) hU.1
  obtain ⟨u0, ⟨u1, u2, u3⟩, u4, u5, u6⟩ := hU
  refine ⟨fun j hj => ?_, fun i hi ha s hs => ?_, fun r hr s hs => ?_⟩
  · have e : j = 2 * (j / 2) + j % 2 := by omega
    rw [e]
    exact hz (j / 2) (by omega) (j % 2) (by omega)
  · by_cases c : i = q
    · subst c
      rw [faZ_z hs, u6 s hs]
      exact lN_0.symm
    · obtain ⟨z1, z2, z3, z4, z5⟩ := u5 i c
      rw [faZ_n c hs, z5 s hs]
      exact hP.2.1 i hi (by omega) s hs
  · have hoth : ∀ i, i < 12 → i ≠ q → ob Z' od' (faZ q fa) r s i = ob Z od fa r s i := by
      intro i hi c
      obtain ⟨z1, z2, z3, z4, z5⟩ := u5 i c
      unfold ob
      rw [z1, z2, z3, z4, f2, ho i c s hs, faZ_n c hs]
    have e1 := sm_q hq hoth
    have e2 := hP.2.2 r hr s hs
    by_cases c : r = p
    · subst c
      have e3 := hc s hs
      have e4 := hh s hs
      have e5 : ob Z' od' (faZ q fa) r s q = zam Z' q * ph s (zpr Z r) lo hi + UU * od' (2 * q + s) := by
        rw [ob_t u1, u2, u3, f2, faZ_z hs, Nat.mul_zero, Nat.mul_zero, Nat.add_zero]
      rcases hQ with ⟨g1, g2, g3⟩ | ⟨g1, g2, g3⟩
      · have e6 : ob Z od fa r s q = zam Z q * ph s (zpr Z r) lo hi + UU * od (2 * q + s) + KK * (zam Z q * fa (2 * q + s)) := by rw [ob_t g1, g2, g3]
        omega
      · have e7 : od (2 * q + s) = 0 := by
          rcases (show s = 0 ∨ s = 1 by omega) with e | e
          · subst e; exact g2
          · subst e; exact g3
        rw [g1, e7, Nat.zero_mul, Nat.mul_zero, Nat.zero_mul, Nat.mul_zero] at e3
        omega
    · rw [hh2 r c s]
      have e5 : ob Z' od' (faZ q fa) r s q = 0 := ob_f (by rw [u1]; exact fun x => c x.symm)
      omega
theorem mul_dv {a : Nat} : UU * (a / 4294967296) ≤ KK * a := by
  unfold UU
  rw [Nat.mul_assoc]
  exact Nat.mul_le_mul_left _ (Nat.mul_div_le _ _)
theorem zW_b {s L S : Nat} {u : Bool} {tz lo hi : Int} (h : TkOk S tz) (h1 : -40 ≤ lo) (hlh : lo < hi) (h2 : hi ≤ 40) (hL : L ≤ 600000000) : zW s u L S tz lo hi ≤ 2100000000 := by
  obtain ⟨c1, c2, c3, c4, c5⟩ := cl_tk h h1 hlh h2
  have b0 := rt_lo (z := lo) (by omega)
  have b1 := rt_top
  have b2 := rt_hi h2
  have hz := rt_z
  have k3 := h.2.2.1
  have k4 := h.2.2.2.1
  unfold zW
  split
  · unfold zWN
    split
    · exact Nat.zero_le _
    · split
      · exact zNear_b hL (by omega) c5
      · exact zNear_b hL k3 (c4 (by omega))
  · unfold zWF
    split
    · exact Nat.zero_le _
    · split
      · exact zFar_b hL (by omega)
      · exact zFar_b hL k4
theorem sv_mint {Z : ZS} {a p q L : Nat} {lo hi : Int} (hS : Solv Z) (hA : ∀ i, i < 12 → zam Z i ≤ 50000000) (hB : pBd (zpl Z) (zlo Z) (zhi Z)) (ha : a < 4) (hp : p < 2) (hq : q < 12) (h1 : -40 ≤ lo) (hlh : lo < hi) (h2 : hi ≤ 40) (hL : L ≤ 50000000) (hT : TkOk (zpr Z p) (ztk Z p)) (hQ : (zpl Z q = p ∧ zlo Z q = lo ∧ zhi Z q = hi) ∨ (zam Z q = 0 ∧ zod Z (2 * q) = 0 ∧ zod Z (2 * q + 1) = 0)) (h4 : ¬ zbal Z (a * 3 + p) < lN (zWN true L (zpr Z p) (ztk Z p) lo hi)) (h5 : ¬ zbal Z (a * 3 + (p + 1)) < lN (zWF true L (zpr Z p) (ztk Z p) lo hi)) : Solv (zMint Z a p q L (zWN true L (zpr Z p) (ztk Z p) lo hi) (zWF true L (zpr Z p) (ztk Z p) lo hi) lo hi) := by
  obtain ⟨h, od, fa, hLed, hP⟩ := hS
  have wA := zW_up (s := 0) (L := L) (by decide) hT h1 hlh h2
  have wB := zW_up (s := 1) (L := L) (by decide) hT h1 hlh h2
  have bA := zW_b (s := 0) (u := true) hT h1 hlh h2 (show L ≤ 600000000 by omega)
  have bB := zW_b (s := 1) (u := true) hT h1 hlh h2 (show L ≤ 600000000 by omega)
  rw [show zW 0 true L (zpr Z p) (ztk Z p) lo hi = zWN true L (zpr Z p) (ztk Z p) lo hi from if_pos rfl] at wA bA
  rw [show zW 1 true L (zpr Z p) (ztk Z p) lo hi = zWF true L (zpr Z p) (ztk Z p) lo hi from if_neg (by decide)] at wB bB
  generalize zWN true L (zpr Z p) (ztk Z p) lo hi = A at *
  generalize zWF true L (zpr Z p) (ztk Z p) lo hi = B at *
  have g1 := led_in (s := 0) hLed ha hp (by decide) (show A < 2 ^ 63 by omega) h4
  have g2 := led_in (s := 1) g1 ha hp (by decide) (show B < 2 ^ 63 by omega) (by rw [pk_unL (by omega)]; exact h5)
  have hq2 := (hB q hq).1
  have hb := fun s (hs : s < 2) => led_le hLed hq2 hs
  refine ⟨_, fun j => if j / 2 = q then od j + zam Z q * fa j / 4294967296 else od j, _, g2, Pol_place (Y := fun s => L * ph s (zpr Z p) lo hi) (PlUp_mint (hQ.elim Or.inl (fun x => Or.inr x.1))) hq hP ?_ ?_ ?_ ?_ ?_ ?_⟩
  · rcases hQ with g | ⟨k1, k2, k3⟩
    · exact Or.inl g
    · have bd : ∀ s, s < 2 → od (2 * q + s) < 2 ^ 63 := fun s hs => by have := od_le hP hq hq2 rfl hs; have := hb s hs; omega
      refine Or.inr ⟨k1, ?_, ?_⟩
      · rw [hP.1 (2 * q) (by omega)] at k2
        exact (lN_ne0 (bd 0 (by decide))).mp k2
      · rw [hP.1 (2 * q + 1) (by omega)] at k3
        exact (lN_ne0 (bd 1 (by decide))).mp k3
  · intro i hi3 s hs
    show (if (2 * i + s) / 2 = q then _ else _) = _
    rw [if_neg (by omega)]
  · intro i hi3 s hs
    show sOd (zod Z) (zfa Z) (lN (zam Z q)) q (2 * i + s) = lN (if (2 * i + s) / 2 = q then od (2 * i + s) + zam Z q * fa (2 * i + s) / 4294967296 else od (2 * i + s))
    by_cases c : i = q
    · subst c
      have e := shr_a hP (hA i hi3) hi3 hq2 hs (hb s hs)
      rw [if_pos (by omega), ← lN_add, ← e, ← hP.1 (2 * i + s) (by omega)]
      rcases (show s = 0 ∨ s = 1 by omega) with e | e
      · subst e; exact sOd_0t
      · subst e; exact sOd_1t
    · rw [if_neg (by omega), sOd_n (by omega) (by omega)]
      exact hP.1 (2 * i + s) (by omega)
  · intro s hs
    rcases (show s = 0 ∨ s = 1 by omega) with e | e
    · subst e
      show UU * h p 0 + L * ph 0 (zpr Z p) lo hi ≤ UU * updH (updH h p 0 (h p 0 + A)) p 1 (updH h p 0 (h p 0 + A) p 1 + B) p 0
      rw [updH_n (by omega), updH_s, Nat.mul_add]
      omega
    · subst e
      show UU * h p 1 + L * ph 1 (zpr Z p) lo hi ≤ UU * updH (updH h p 0 (h p 0 + A)) p 1 (updH h p 0 (h p 0 + A) p 1 + B) p 1
      rw [updH_s, updH_n (by omega), Nat.mul_add]
      omega
  · intro r hr s
    show updH (updH h p 0 (h p 0 + A)) p 1 (updH h p 0 (h p 0 + A) p 1 + B) r s = h r s
    rw [updH_n (fun x => hr x.1), updH_n (fun x => hr x.1)]
  · intro s hs
    show updN (zam Z) q (zam Z q + L) q * ph s (zpr Z p) lo hi + UU * (if (2 * q + s) / 2 = q then od (2 * q + s) + zam Z q * fa (2 * q + s) / 4294967296 else od (2 * q + s)) ≤ _
    rw [updN_s, if_pos (by omega), Nat.mul_add, Nat.add_mul]
    have := mul_dv (a := zam Z q * fa (2 * q + s))
    omega
theorem sv_burn {Z : ZS} {p q L : Nat} {lo hi : Int} (hS : Solv Z) (hA : ∀ i, i < 12 → zam Z i ≤ 50000000) (hp : p < 2) (hq : q < 12) (h1 : -40 ≤ lo) (hlh : lo < hi) (h2 : hi ≤ 40) (hL : L ≤ zam Z q) (hT : TkOk (zpr Z p) (ztk Z p)) (hQ : zpl Z q = p ∧ zlo Z q = lo ∧ zhi Z q = hi) : Solv (zBurn Z p q L lo hi) := by
  obtain ⟨h, od, fa, hLed, hP⟩ := hS
  have wA := zW_dn (s := 0) (L := L) (by decide) hT h1 hlh h2
  have wB := zW_dn (s := 1) (L := L) (by decide) hT h1 hlh h2
  have hq2 : zpl Z q < 2 := by rw [hQ.1]; exact hp
  have hb := fun s (hs : s < 2) => led_le hLed hq2 hs
  refine ⟨h, fun j => if j / 2 = q then od j + zam Z q * fa j / 4294967296 + zW (j % 2) false L (zpr Z p) (ztk Z p) lo hi else od j, _, hLed, Pol_place (Y := fun s => 0) (PlUp_burn hQ) hq hP (Or.inl hQ) ?_ ?_ (fun s hs => Nat.le_refl _) (fun r hr s => rfl) ?_⟩
  · intro i hi3 s hs
    show (if (2 * i + s) / 2 = q then _ else _) = _
    rw [if_neg (by omega)]
  · intro i hi3 s hs
    show zAdd2 (sOd (zod Z) (zfa Z) (lN (zam Z q)) q) q (lN (zWN false L (zpr Z p) (ztk Z p) lo hi)) (lN (zWF false L (zpr Z p) (ztk Z p) lo hi)) (2 * i + s) = lN (if (2 * i + s) / 2 = q then od (2 * i + s) + zam Z q * fa (2 * i + s) / 4294967296 + zW ((2 * i + s) % 2) false L (zpr Z p) (ztk Z p) lo hi else od (2 * i + s))
    by_cases c : i = q
    · subst c
      have e := shr_a hP (hA i hi3) hi3 hq2 hs (hb s hs)
      rw [if_pos (by omega), ← lN_add, ← lN_add, ← e, ← hP.1 (2 * i + s) (by omega)]
      rcases (show s = 0 ∨ s = 1 by omega) with e | e
      · subst e
        rw [show (2 * i + 0) % 2 = 0 by omega]
        exact zAdd2_0t.trans (by rw [sOd_0t]; rfl)
      · subst e
        rw [show (2 * i + 1) % 2 = 1 by omega]
        exact zAdd2_1t.trans (by rw [sOd_1t]; rfl)
    · rw [if_neg (by omega), zAdd2_n (by omega) (by omega), sOd_n (by omega) (by omega)]
      exact hP.1 (2 * i + s) (by omega)
  · intro s hs
    show updN (zam Z) q (zam Z q - L) q * ph s (zpr Z p) lo hi + UU * (if (2 * q + s) / 2 = q then od (2 * q + s) + zam Z q * fa (2 * q + s) / 4294967296 + zW ((2 * q + s) % 2) false L (zpr Z p) (ztk Z p) lo hi else od (2 * q + s)) ≤ _
    rw [updN_s, if_pos (by omega), Nat.mul_add, Nat.mul_add, Nat.sub_mul, show (2 * q + s) % 2 = s by omega]
    have e1 := mul_dv (a := zam Z q * fa (2 * q + s))
    have e2 := Nat.mul_le_mul_right (ph s (zpr Z p) lo hi) hL
    have e3 : UU * zW s false L (zpr Z p) (ztk Z p) lo hi ≤ L * ph s (zpr Z p) lo hi := zW_dn hs hT h1 hlh h2
    omega
theorem sv_coll {Z : ZS} {a p k : Nat} (hS : Solv Z) (ha : a < 4) (hp : p < 2) (hk : k < 12) (hQ : zpl Z k = p) : Solv (zColl Z a p k) := by
  obtain ⟨h, od, fa, hLed, hP⟩ := hS
  have o0 := od_le hP hk hp hQ (show 0 < 2 by decide)
  have o1 := od_le hP hk hp hQ (show 1 < 2 by decide)
  have z0 := hP.1 (2 * k) (by omega)
  have z1 := hP.1 (2 * k + 1) (by omega)
  have g1 := led_out (a := a) (s := 0) hLed ha hp (by decide) o0
  have g2 := led_out (a := a) (s := 1) g1 ha hp (by decide) (by rw [updH_n (by omega)]; exact o1)
  refine ⟨updH (updH h p 0 (h p 0 - od (2 * k))) p 1 (updH h p 0 (h p 0 - od (2 * k)) p 1 - od (2 * k + 1)), fun j => if j / 2 = k then 0 else od j, fa, ?_, ?_, ?_, ?_⟩
  · rw [← z1, show lN (od (2 * k + 0)) = zod Z (2 * k) from z0.symm] at g2
    exact g2
  · intro j hj
    show vp_updL (vp_updL (zod Z) (2 * k) 0) (2 * k + 1) 0 j = lN (if j / 2 = k then 0 else od j)
    by_cases c : j = 2 * k + 1
    · subst c
      rw [pk_usL, if_pos (by omega)]
      exact lN_0.symm
    · rw [pk_unL c]
      by_cases c2 : j = 2 * k
      · subst c2
        rw [pk_usL, if_pos (by omega)]
        exact lN_0.symm
      · rw [pk_unL c2, if_neg (by omega)]
        exact hP.1 j hj
  · exact hP.2.1
  · intro r hr s hs
    have e2 := hP.2.2 r hr s hs
    have e1 := sm_q (f := ob Z od fa r s) (f' := ob (zColl Z a p k) (fun j => if j / 2 = k then 0 else od j) fa r s) hk (fun i hi c => by
      unfold ob
      show (if zpl Z i = r then zam Z i * ph s (zpr Z r) (zlo Z i) (zhi Z i) + UU * (if (2 * i + s) / 2 = k then 0 else od (2 * i + s)) + KK * (zam Z i * fa (2 * i + s)) else 0) = _
      rw [if_neg (show ¬ (2 * i + s) / 2 = k by omega)])
    have e3 : ob (zColl Z a p k) (fun j => if j / 2 = k then 0 else od j) fa r s k + (if r = p then UU * od (2 * k + s) else 0) = ob Z od fa r s k := by
      unfold ob
      show (if zpl Z k = r then zam Z k * ph s (zpr Z r) (zlo Z k) (zhi Z k) + UU * (if (2 * k + s) / 2 = k then 0 else od (2 * k + s)) + KK * (zam Z k * fa (2 * k + s)) else 0) + _ = _
      rw [if_pos (show (2 * k + s) / 2 = k by omega), Nat.mul_zero]
      by_cases c : r = p
      · rw [if_pos c, if_pos (hQ.trans c.symm), if_pos (hQ.trans c.symm)]
        omega
      · rw [if_neg c, if_neg (fun x => c (x.symm.trans hQ)), if_neg (fun x => c (x.symm.trans hQ))]
    by_cases c : r = p
    · subst c
      rw [if_pos rfl] at e3
      have e4 : updH (updH h r 0 (h r 0 - od (2 * k))) r 1 (updH h r 0 (h r 0 - od (2 * k)) r 1 - od (2 * k + 1)) r s = h r s - od (2 * k + s) := by
        rcases (show s = 0 ∨ s = 1 by omega) with e | e
        · subst e
          rw [updH_n (by omega), updH_s]
          rfl
        · subst e
          rw [updH_s, updH_n (by omega)]
      rw [e4, Nat.mul_sub]
      omega
    · rw [if_neg c] at e3
      rw [updH_n (fun x => c x.1), updH_n (fun x => c x.1)]
      omega

