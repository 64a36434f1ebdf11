theorem lst_congr {p q : Nat → Bool} : ∀ {d i : Nat}, (∀ f, i ≤ f → f < i + d → p f = q f) → lst p d i = lst q d i
  | 0, _, _ => rfl
  | d + 1, i, h => by rw [lst, lst, h i (Nat.le_refl _) (by omega), lst_congr (fun f h1 h2 => h f (by omega) (by omega))]
theorem vt_one {g s0 lv gl : Nat} {fc nx v1 v2 : Nat → Nat → Nat} (hb : FBd g s0 lv fc nx) (hg : g ≤ 8) (h1 : ∀ m, m < 2 ^ g → IsV g lv gl s0 fc nx v1 m) (h2 : ∀ m, m < 2 ^ g → IsV g lv gl s0 fc nx v2 m) : ∀ d m s, 2 ^ g ≤ m + d → m < 2 ^ g → okr lv s0 m s → v1 m s = v2 m s
  | 0, m, s, hd, hm, _ => absurd hd (by omega)
  | d + 1, m, s, hd, hm, hs => by
    rw [(h1 m hm s hs).1, (h2 m hm s hs).1]
    unfold vrec
    by_cases q : gl ≤ cnt8 (m &&& lv)
    · rw [if_pos q, if_pos q]
    · rw [if_neg q, if_neg q]
      refine mxl_congr fun f hf => ?_
      unfold hnx
      by_cases b : m.testBit f = true
      · rw [if_pos b, if_pos b]
      · rw [if_neg b, if_neg b]
        have b2 : m.testBit f = false := by simpa using b
        have := or_gt b2
        rw [vt_one hb hg h1 h2 d (m ||| 2 ^ f) (nx f s) (by omega) (or_lt hm hf) (okr_nx hb hf hg b2 hs)]
theorem grow_one {g s0 lv gl : Nat} {fc nx v1 v2 : Nat → Nat → Nat} (hb : FBd g s0 lv fc nx) (hg : g ≤ 8) (h : ∀ m s, m < 2 ^ g → okr lv s0 m s → v1 m s = v2 m s) : ∀ d m s, m < 2 ^ g → okr lv s0 m s → grow g lv gl fc nx v1 d m s = grow g lv gl fc nx v2 d m s
  | 0, m, s, hm, hs => rfl
  | d + 1, m, s, hm, hs => by
    rw [grow, grow]
    by_cases q : gl ≤ cnt8 (m &&& lv)
    · rw [if_pos q, if_pos q]
    · rw [if_neg q, if_neg q]
      have e : lst (pnx fc nx v1 m s) g 0 = lst (pnx fc nx v2 m s) g 0 := lst_congr fun f _ hf => by
        unfold pnx
        cases b : m.testBit f with
        | true => rfl
        | false => rw [h m s hm hs, h _ _ (or_lt hm (by omega)) (okr_nx hb (by omega) hg b hs)]
      rw [e]
      cases r : lst (pnx fc nx v2 m s) g 0 with
      | none => rfl
      | some f =>
        obtain ⟨r1, -, r3⟩ := lst_some r
        have b : m.testBit f = false := by
          unfold pnx at r1
          cases b : m.testBit f with
          | true => rw [b] at r1; exact absurd r1 (by simp)
          | false => rfl
        show f :: _ = f :: _
        rw [grow_one hb hg h d _ _ (or_lt hm (by omega)) (okr_nx hb (by omega) hg b hs)]
theorem plan_one {g : Nat} {pf : Nat → Int32} {s0 gl : Nat} {br : Int32} (hG : GOK g pf) (hg : g ≤ 8) (h0 : s0 ≤ 9) {l1 l2 v1 v2 : Nat} {r1 r2 : Nat → Int32} (a : PlanOK g pf s0 gl br l1 r1 v1) (b : PlanOK g pf s0 gl br l2 r2 v2) : l1 = l2 ∧ v1 = v2 ∧ ∀ j, j < l1 → r1 j = r2 j := by
  obtain ⟨t1, a1, a2, a3, a4⟩ := a
  obtain ⟨t2, b1, b2, b3, b4⟩ := b
  have hb := plan_bd hG br h0
  have e : ∀ m s, m < 2 ^ g → okr (lvN pf br g) s0 m s → t1 m s = t2 m s := fun m s hm hs => vt_one hb hg a1 b1 (2 ^ g) m s (by omega) hm hs
  have o : okr (lvN pf br g) s0 0 s0 := ⟨Nat.le_refl _, Nat.le_add_right _ _⟩
  have p : 0 < 2 ^ g := Nat.two_pow_pos g
  have ev : v1 = v2 := by rw [a2, b2, e 0 s0 p o]
  have eg := grow_one (gl := gl) hb hg e g 0 s0 p o
  have el : l1 = l2 := by rw [a3, b3, ev, eg]
  exact ⟨el, ev, fun j hj => by rw [a4 j hj, b4 j (by omega), eg]⟩
theorem ord_one {x : Int32} {l1 l2 : Nat} {r1 r2 : Nat → Int32} (h8 : l1 ≤ 8) (hx : x = -1 ∨ ¬ x < 0) (e : l1 = l2) (h : ∀ j, j < l1 → r1 j = r2 j) : ordI x l1 r1 = ordI x l2 r2 := by
  subst e
  unfold ordI
  by_cases h1 : l1 = 0
  · rw [if_pos h1, if_pos h1]
  · rw [if_neg h1, if_neg h1]
    by_cases h2 : x = -1
    · rw [if_pos h2, if_pos h2]
    · rw [if_neg h2, if_neg h2]
      by_cases h3 : nI l1 ≤ x
      · rw [if_pos h3, if_pos h3]
      · rw [if_neg h3, if_neg h3]
        exact h _ (in_range (hx.resolve_left h2) h3 (by omega)).2
/-- the course of a state, in its words -/
def cC (G N : TG) (T : TT) : TC := (nI N.1, nI T.2.1, wH G.1 G.2.2 (nmR N.2.2) (nI T.1) (nI T.2.1) (nI T.2.2) N.1, wC G.1 G.2.2 (nmR N.2.2) (nI T.1) (nI T.2.1) (nI T.2.2), wX G.1 G.2.2 (nmR N.2.2) (nI T.1) (nI T.2.1) (nI T.2.2), (fun t => (wst G.1 G.2.2 (nmR N.2.2) (nI T.1) (nI T.2.1) (nI T.2.2) t).1), (fun t => (wst G.1 G.2.2 (nmR N.2.2) (nI T.1) (nI T.2.1) (nI T.2.2) t).2), wA G.1 G.2.2 (nmR N.2.2) (nI T.1) (nI T.2.1) (nI T.2.2), wN G.1 G.2.2 (nmR N.2.2) (nI T.1) (nI T.2.1) (nI T.2.2), wF G.1 G.2.2 (nmR N.2.2) (nI T.1) (nI T.2.1) (nI T.2.2) N.1)
def CrsC (G N : TG) (T : TT) (C : TC) : Prop := CrsT G.1 G.2.2 (nmR N.2.2) (nI T.1) (nI T.2.1) (nI T.2.2) N.1 C
theorem CrsC.len {G N : TG} {T : TT} {C : TC} (h : CrsC G N T C) : C.1 = nI N.1 := h.1
theorem CrsC.goal {G N : TG} {T : TT} {C : TC} (h : CrsC G N T C) : C.2.1 = nI T.2.1 := h.2.1
theorem CrsC.cm {G N : TG} {T : TT} {C : TC} (h : CrsC G N T C) : ∀ t, t < N.1 → C.2.2.2.1 t = (cC G N T).2.2.2.1 t := fun t ht => (h.2.2.1 t ht).1
theorem CrsC.sx {G N : TG} {T : TT} {C : TC} (h : CrsC G N T C) : ∀ t, t < N.1 → C.2.2.2.2.1 t = (cC G N T).2.2.2.2.1 t := fun t ht => (h.2.2.1 t ht).2
theorem CrsC.sg {G N : TG} {T : TT} {C : TC} (h : CrsC G N T C) : ∀ t, t ≤ N.1 → C.2.2.2.2.2.1 t = (cC G N T).2.2.2.2.2.1 t := fun t ht => (h.2.2.2.1 t ht).1
theorem CrsC.wn {G N : TG} {T : TT} {C : TC} (h : CrsC G N T C) : ∀ t, t ≤ N.1 → C.2.2.2.2.2.2.1 t = (cC G N T).2.2.2.2.2.2.1 t := fun t ht => (h.2.2.2.1 t ht).2.1
theorem CrsC.ab {G N : TG} {T : TT} {C : TC} (h : CrsC G N T C) : ∀ t, t ≤ N.1 → C.2.2.2.2.2.2.2.1 t = (cC G N T).2.2.2.2.2.2.2.1 t := fun t ht => (h.2.2.2.1 t ht).2.2.1
theorem CrsC.inn {G N : TG} {T : TT} {C : TC} (h : CrsC G N T C) : ∀ t, t ≤ N.1 → C.2.2.2.2.2.2.2.2.1 t = (cC G N T).2.2.2.2.2.2.2.2.1 t := fun t ht => (h.2.2.2.1 t ht).2.2.2
theorem CrsC.ft {G N : TG} {T : TT} {C : TC} (h : CrsC G N T C) : ∀ f, f < 8 → C.2.2.2.2.2.2.2.2.2 f = (cC G N T).2.2.2.2.2.2.2.2.2 f := h.2.2.2.2.1
theorem CrsC.hm {G N : TG} {T : TT} {C : TC} (h : CrsC G N T C) : C.2.2.1 = (cC G N T).2.2.1 := h.2.2.2.2.2
def kC (G N : TG) (T : TT) : Nat → Nat := kW G.1 G.2.2 (nmR N.2.2) (nI T.1) (nI T.2.1) (nI T.2.2)
def aC (G N : TG) (T : TT) : Nat → Nat := aW G.1 G.2.2 (nmR N.2.2) (nI T.1) (nI T.2.1) (nI T.2.2)
def harmC (G N : TG) (T : TT) : Nat := hW G.1 G.2.2 (nmR N.2.2) (nI T.1) (nI T.2.1) (nI T.2.2) N.1
def lC (G N : TG) (T : TT) : Nat := lvW G.1 G.2.2 (nmR N.2.2) (nI T.1) T.2.1 (nI T.2.2) N.1
theorem CrsC.nums {G N : TG} {T : TT} {C : TC} (h : CrsC G N T C) (h8 : T.2.1 ≤ 8) : ∀ t, t ≤ N.1 → C.2.2.2.2.2.2.1 t = nI (kC G N T t) ∧ kC G N T t ≤ 8 ∧ C.2.2.2.2.2.2.2.1 t = lN (aC G N T t) ∧ aC G N T t < 2 ^ 62 := fun t ht => by
  have k := kW_ok G.1 G.2.2 (nmR N.2.2) (nI T.1) (nI T.2.2) T.2.1 h8 t
  have a := aW_ok G.1 G.2.2 (nmR N.2.2) (nI T.1) (nI T.2.2) T.2.1 h8 t
  have b := aW_lt G.1 G.2.2 (nmR N.2.2) (nI T.1) (nI T.2.2) T.2.1 h8 t
  exact ⟨(h.wn t ht).trans k.1, Nat.le_trans k.2 h8, (h.ab t ht).trans a.1, Nat.lt_of_le_of_lt b (by decide)⟩
theorem CrsC.lives {G N : TG} {T : TT} {C : TC} (h : CrsC G N T C) (h8 : T.2.1 ≤ 8) : (if C.2.2.2.2.2.2.1 N.1 < C.2.1 then 0 else C.2.2.2.2.2.2.2.1 N.1) = lN (lC G N T) ∧ lC G N T < 2 ^ 62 := by
  have a := lvW_ok G.1 G.2.2 (nmR N.2.2) (nI T.1) (nI T.2.2) T.2.1 h8 N.1
  refine ⟨?_, Nat.lt_of_le_of_lt (Nat.le_trans a.2 (Nat.pow_le_pow_right (by decide) h8)) (by decide)⟩
  rw [h.goal, h.wn _ (Nat.le_refl _), h.ab _ (Nat.le_refl _)]
  exact a.1
theorem CrsC.harm {G N : TG} {T : TT} {C : TC} (h : CrsC G N T C) (h8 : T.2.1 ≤ 8) (h12 : N.1 ≤ 12) : C.2.2.1 = lN (harmC G N T) ∧ harmC G N T < 2 ^ 62 := by
  have a := hW_ok G.1 G.2.2 (nmR N.2.2) (nI T.1) (nI T.2.2) T.2.1 h8 N.1
  exact ⟨h.hm.trans a.1, Nat.lt_of_le_of_lt (Nat.le_trans a.2 (Nat.mul_le_mul_right _ h12)) (by decide)⟩
theorem fw_congr {f g : Nat → Int32} : ∀ {n : Nat}, (∀ i, i < n → f i = g i) → fwI f n = fwI g n
  | 0, _ => rfl
  | n + 1, h => by rw [fwI, fwI, fw_congr (fun i hi => h i (by omega)), h n (by omega)]
theorem fg_congr {f g : Nat → Int32} : ∀ {n : Nat}, (∀ i, i < n → f i = g i) → fgI f n = fgI g n
  | 0, _ => rfl
  | n + 1, h => by rw [fgI, fgI, fg_congr (fun i hi => h i (by omega)), h n (by omega)]
theorem nv_congr {f g : Nat → Int32} : ∀ {n : Nat}, (∀ i, i < n → f i = g i) → nvI f n = nvI g n
  | 0, _ => rfl
  | n + 1, h => by rw [nvI, nvI, nv_congr (fun i hi => h i (by omega)), h n (by omega)]
theorem pl_congr {c1 c2 x1 x2 : Nat → Int32} : ∀ {d i : Nat} {s : Int32}, (∀ t, i ≤ t → t < i + d → c1 t = c2 t ∧ x1 t = x2 t) → plI c1 x1 d i s = plI c2 x2 d i s
  | 0, _, _, _ => rfl
  | d + 1, i, s, h => by
    obtain ⟨h1, h2⟩ := h i (Nat.le_refl _) (by omega)
    rw [plI, plI, h1, h2, pl_congr (fun t a b => h t (by omega) (by omega)), pl_congr (s := s) (fun t a b => h t (by omega) (by omega))]
theorem gal_congr {c1 c2 x1 x2 n1 n2 : Nat → Int32} {h : Nat} {win : Bool} {seed : Int32} (e : ∀ t, t < h → c1 t = c2 t ∧ x1 t = x2 t) (en : ∀ t, t ≤ h → n1 t = n2 t) : ∀ t, galS c1 x1 n1 h win seed t = galS c2 x2 n2 h win seed t
  | 0 => rfl
  | t + 1 => by
    have ih := gal_congr (win := win) (seed := seed) e en t
    rw [galS, galS, ih, pl_congr (s := (galS c2 x2 n2 h win seed t).1) (fun t _ b => e t (by omega)), en _ (by have := plI_le c2 x2 h 0 (galS c2 x2 n2 h win seed t).1; omega)]
theorem CrsC.cnt {G N : TG} {T : TT} {C : TC} (h : CrsC G N T C) (hG : G.1 ≤ 8) (t0 t1 : TX) (S : TS) (lf : Int32) : ∀ j, cntV t0 t1 G N C S lf j = cntV t0 t1 G N (cC G N T) S lf j := fun j => by
  unfold cntV
  rw [fg_congr h.cm, nv_congr (fun f hf => h.ft f (by omega)), h.wn _ (Nat.le_refl _)]
def galC (G N : TG) (T : TT) (seed : Int32) (n : Nat) : Int32 × Int32 := (galS (cC G N T).2.2.2.1 (cC G N T).2.2.2.2.1 (cC G N T).2.2.2.2.2.2.2.2.1 N.1 (decide (¬ (cC G N T).2.2.2.2.2.2.1 N.1 < (cC G N T).2.1)) seed n).2
theorem CrsC.gal {G N : TG} {T : TT} {C : TC} (h : CrsC G N T C) (seed : Int32) (n : Nat) : (galS C.2.2.2.1 C.2.2.2.2.1 C.2.2.2.2.2.2.2.2.1 N.1 (decide (¬ C.2.2.2.2.2.2.1 N.1 < C.2.1)) seed n).2 = galC G N T seed n := by
  unfold galC
  rw [h.goal, h.wn _ (Nat.le_refl _), gal_congr (fun t ht => ⟨h.cm t ht, h.sx t ht⟩) h.inn]
  rfl
