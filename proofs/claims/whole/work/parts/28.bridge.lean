theorem six_in (c s f : Int32) : ∃ x, x ≤ 16 ∧ sixI c s f = nI x := by
  unfold sixI
  by_cases hc : c = 3
  · rw [if_pos hc]
    by_cases h1 : 8 + s - f < 16
    · rw [if_pos h1]
      by_cases h2 : 0 < 8 + s - f
      · rw [if_pos h2]
        obtain ⟨e, l⟩ := in_range (x := 8 + s - f) (n := 16) (fun q => absurd (Int32.lt_trans h2 q) (by decide)) (fun q => absurd h1 (Int32.not_lt.mpr q)) (by decide)
        exact ⟨_, by omega, e⟩
      · rw [if_neg h2]; exact ⟨0, by decide, rfl⟩
    · rw [if_neg h1]; exact ⟨16, by decide, rfl⟩
  · rw [if_neg hc]; exact ⟨16, by decide, rfl⟩
theorem wX_in (g : Nat) (pf : Nat → Int32) (nm : Nat → Nat) (s0 goal br : Int32) (i : Nat) : ∃ x, x ≤ 16 ∧ wX g pf nm s0 goal br i = nI x := six_in _ _ _
theorem win01 (c : Int32) : winI c = 0 ∨ winI c = 1 := by
  unfold winI
  split
  · exact Or.inr rfl
  · exact Or.inl rfl
theorem win_c0 {c : Int32} (h : c = 0) : winI c = 0 := by subst h; rfl
/-- wins and what lives above 16 to the wins, as numbers -/
def kW (g : Nat) (pf : Nat → Int32) (nm : Nat → Nat) (s0 goal br : Int32) (i : Nat) : Nat := (wst g pf nm s0 goal br i).2.toNatClampNeg
def aW (g : Nat) (pf : Nat → Int32) (nm : Nat → Nat) (s0 goal br : Int32) : Nat → Nat
  | 0 => 1
  | i + 1 => if winI (wC g pf nm s0 goal br i) = 0 then aW g pf nm s0 goal br i else aW g pf nm s0 goal br i * (wX g pf nm s0 goal br i).toNatClampNeg
def hW (g : Nat) (pf : Nat → Int32) (nm : Nat → Nat) (s0 goal br : Int32) : Nat → Nat
  | 0 => 0
  | i + 1 => if wC g pf nm s0 goal br i = 3 ∧ pf (5 * nm i + 3) = 0 then hW g pf nm s0 goal br i + aW g pf nm s0 goal br (i + 1) * 2 ^ (4 * (8 - kW g pf nm s0 goal br (i + 1))) else hW g pf nm s0 goal br i
theorem kW_ok (g : Nat) (pf : Nat → Int32) (nm : Nat → Nat) (s0 br : Int32) (gl : Nat) (hg : gl ≤ 8) : ∀ i, (wst g pf nm s0 (nI gl) br i).2 = nI (kW g pf nm s0 (nI gl) br i) ∧ kW g pf nm s0 (nI gl) br i ≤ gl
  | 0 => ⟨rfl, Nat.zero_le _⟩
  | i + 1 => by
    obtain ⟨h1, h2⟩ := kW_ok g pf nm s0 br gl hg i
    have e : (wst g pf nm s0 (nI gl) br (i + 1)).2 = (wst g pf nm s0 (nI gl) br i).2 + winI (wC g pf nm s0 (nI gl) br i) := rfl
    have f : kW g pf nm s0 (nI gl) br (i + 1) = (wst g pf nm s0 (nI gl) br (i + 1)).2.toNatClampNeg := rfl
    rcases win01 (wC g pf nm s0 (nI gl) br i) with h | h
    · rw [h, h1, Int32.add_zero] at e
      rw [f, e, nI_clamp (by omega)]
      exact ⟨rfl, h2⟩
    · rw [h, h1, nI_1] at e
      have : kW g pf nm s0 (nI gl) br i < gl := by
        refine Nat.lt_of_not_le fun q => ?_
        have : wC g pf nm s0 (nI gl) br i = 0 := by
          unfold wC cmv
          rw [h1, if_pos (Or.inl (nI_le q (by omega)))]
        rw [this] at h
        exact absurd h (by decide)
      rw [f, e, nI_clamp (by omega)]
      exact ⟨rfl, this⟩
theorem kW_s (g : Nat) (pf : Nat → Int32) (nm : Nat → Nat) (s0 br : Int32) (gl : Nat) (hg : gl ≤ 8) (i : Nat) : kW g pf nm s0 (nI gl) br (i + 1) = kW g pf nm s0 (nI gl) br i + (if winI (wC g pf nm s0 (nI gl) br i) = 0 then 0 else 1) := by
  have h1 := kW_ok g pf nm s0 br gl hg i
  have h2 := kW_ok g pf nm s0 br gl hg (i + 1)
  have e : (wst g pf nm s0 (nI gl) br (i + 1)).2 = (wst g pf nm s0 (nI gl) br i).2 + winI (wC g pf nm s0 (nI gl) br i) := rfl
  rw [h1.1, h2.1] at e
  rcases win01 (wC g pf nm s0 (nI gl) br i) with h | h
  · rw [h, if_pos rfl]
    rw [h, Int32.add_zero] at e
    exact (nI_eq (by omega) (by omega)).mp e
  · rw [h, if_neg (by decide)]
    rw [h, nI_1] at e
    exact (nI_eq (by omega) (by omega)).mp e
theorem aW_ok (g : Nat) (pf : Nat → Int32) (nm : Nat → Nat) (s0 br : Int32) (gl : Nat) (hg : gl ≤ 8) : ∀ i, wA g pf nm s0 (nI gl) br i = lN (aW g pf nm s0 (nI gl) br i) ∧ aW g pf nm s0 (nI gl) br i ≤ 16 ^ kW g pf nm s0 (nI gl) br i
  | 0 => ⟨rfl, Nat.one_le_pow _ _ (by decide)⟩
  | i + 1 => by
    obtain ⟨h1, h2⟩ := aW_ok g pf nm s0 br gl hg i
    rw [kW_s g pf nm s0 br gl hg i, wA, aW]
    by_cases h : winI (wC g pf nm s0 (nI gl) br i) = 0
    · rw [if_pos h, if_pos h, if_pos h]
      exact ⟨h1, h2⟩
    · rw [if_neg h, if_neg h, if_neg h]
      obtain ⟨x, hx, e⟩ := wX_in g pf nm s0 (nI gl) br i
      rw [e, nI_clamp (by omega), nI_l (by omega), h1, lN_mul, Nat.pow_succ]
      exact ⟨rfl, Nat.mul_le_mul h2 hx⟩
theorem p16 (k : Nat) : 16 ^ k = 2 ^ (4 * k) := by rw [show (16 : Nat) = 2 ^ 4 from rfl, ← Nat.pow_mul]
theorem aW_lt (g : Nat) (pf : Nat → Int32) (nm : Nat → Nat) (s0 br : Int32) (gl : Nat) (hg : gl ≤ 8) (i : Nat) : aW g pf nm s0 (nI gl) br i ≤ 2 ^ 32 := by
  have h1 := (aW_ok g pf nm s0 br gl hg i).2
  have h2 := (kW_ok g pf nm s0 br gl hg i).2
  rw [p16] at h1
  exact Nat.le_trans h1 (Nat.pow_le_pow_right (by decide) (by omega))
theorem hW_ok (g : Nat) (pf : Nat → Int32) (nm : Nat → Nat) (s0 br : Int32) (gl : Nat) (hg : gl ≤ 8) : ∀ i, wH g pf nm s0 (nI gl) br i = lN (hW g pf nm s0 (nI gl) br i) ∧ hW g pf nm s0 (nI gl) br i ≤ i * 2 ^ 32
  | 0 => ⟨rfl, Nat.zero_le _⟩
  | i + 1 => by
    obtain ⟨h1, h2⟩ := hW_ok g pf nm s0 br gl hg i
    obtain ⟨a1, a2⟩ := aW_ok g pf nm s0 br gl hg (i + 1)
    obtain ⟨k1, k2⟩ := kW_ok g pf nm s0 br gl hg (i + 1)
    rw [wH, hW]
    by_cases h : wC g pf nm s0 (nI gl) br i = 3 ∧ pf (5 * nm i + 3) = 0
    · rw [if_pos h, if_pos h, h1, a1, k1, show (4 : Int32) * (8 - nI (kW g pf nm s0 (nI gl) br (i + 1))) = nI (4 * (8 - kW g pf nm s0 (nI gl) br (i + 1))) by rw [show (8 : Int32) = nI 8 from rfl, nI_sub (by omega), mul4], wb_shl _ (by omega), lN_add]
      refine ⟨rfl, ?_⟩
      have : aW g pf nm s0 (nI gl) br (i + 1) * 2 ^ (4 * (8 - kW g pf nm s0 (nI gl) br (i + 1))) ≤ 2 ^ 32 := by
        refine Nat.le_trans (Nat.mul_le_mul_right _ a2) ?_
        rw [p16, ← Nat.pow_add]
        exact Nat.pow_le_pow_right (by decide) (by omega)
      clear a1 a2 k1 k2 h1
      revert h2 this
      generalize (2 : Nat) ^ 32 = Z
      intro h2 this
      rw [show (i + 1) * Z = i * Z + Z from Nat.succ_mul i Z]
      exact Nat.add_le_add h2 this
    · rw [if_neg h, if_neg h]
      exact ⟨h1, Nat.le_trans h2 (Nat.mul_le_mul_right _ (by omega))⟩
/-- LIVES as a number -/
def lvW (g : Nat) (pf : Nat → Int32) (nm : Nat → Nat) (s0 : Int32) (gl : Nat) (br : Int32) (h : Nat) : Nat := if kW g pf nm s0 (nI gl) br h < gl then 0 else aW g pf nm s0 (nI gl) br h
theorem lvW_ok (g : Nat) (pf : Nat → Int32) (nm : Nat → Nat) (s0 br : Int32) (gl : Nat) (hg : gl ≤ 8) (h : Nat) : lvI g pf nm s0 (nI gl) br h = lN (lvW g pf nm s0 gl br h) ∧ lvW g pf nm s0 gl br h ≤ 16 ^ gl := by
  obtain ⟨a1, a2⟩ := aW_ok g pf nm s0 br gl hg h
  obtain ⟨k1, k2⟩ := kW_ok g pf nm s0 br gl hg h
  unfold lvI lvW
  rw [k1, a1]
  by_cases q : kW g pf nm s0 (nI gl) br h < gl
  · rw [if_pos q, if_pos (nI_lt q (by omega))]
    exact ⟨rfl, Nat.zero_le _⟩
  · rw [if_neg q, if_neg (fun z => q ((nI_ltI (by omega) (by omega)).mp z))]
    exact ⟨rfl, Nat.le_trans a2 (Nat.pow_le_pow_right (by decide) k2)⟩
