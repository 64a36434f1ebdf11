theorem oiW : Cond.instanceMethod objectInit ∈ tb := tl_1 23 rfl rfl
theorem ocW : Cond.code objectInit ⟨#[0xb1]⟩ 1 none ∈ tb := tl_1 24 rfl rfl
theorem go_clr {X : (Nat → Nat) → State → (Nat → Prop) → Prop} {M : MD} {Q : Option Value → List AE → Prop} {n0 cn sn pc : Nat} {L : List (Option Value)} {st : List Value} {w : List AE} (i : Nat) (k : Go X M Q n0 cn sn pc (L.set i none) st w) : Go X M Q n0 cn sn pc L st w := by
  intro p l e s m args below meth c D ad0 ad tC A H locs ls Z hC hK hX hR hl hZ
  refine k p l e s m args below meth c D ad0 ad tC A H locs ls Z hC hK hX hR (lv_mono hl fun q hq => ?_) hZ
  obtain ⟨j, v, h1, rfl⟩ := gl_mem.mp hq
  refine gl_mem.mpr ⟨j, v, ?_, rfl⟩
  rw [List.getElem?_set] at h1
  by_cases hj : i = j
  · rw [if_pos hj] at h1
    split at h1 <;> simp at h1
  · rw [if_neg hj] at h1
    exact h1
def tlC (ok : Nat → Bool) (F : Nat → Nat → Int32) (f e : Nat) : Nat → Int32
  | 0 => 0
  | b + 1 => if ok b = true ∧ F b f + 1 = nI e then tlC ok F f e b + 1 else tlC ok F f e b
def mxE (h : Nat → Int32) : Nat → Int32
  | 0 => 0
  | e + 1 => if mxE h e < h e then h e else mxE h e
def askI (mA : Nat → Int32) : Nat → Int32 × Int32
  | 0 => (-1, 11)
  | f + 1 => if (askI mA f).2 ≤ mA f then askI mA f else (nI f, mA f)
theorem askI_le {mA : Nat → Int32} {f : Nat} (h : (askI mA f).2 ≤ mA f) : askI mA (f + 1) = askI mA f := if_pos h
theorem askI_gt {mA : Nat → Int32} {f : Nat} (h : ¬ (askI mA f).2 ≤ mA f) : askI mA (f + 1) = (nI f, mA f) := if_neg h
theorem mxE_lt {h : Nat → Int32} {e : Nat} : mxE h (e + 1) = if mxE h e < h e then h e else mxE h e := rfl
theorem mxE_congr {h k : Nat → Int32} : ∀ {n : Nat}, (∀ e, e < n → h e = k e) → mxE h n = mxE k n
  | 0, _ => rfl
  | n + 1, q => by rw [mxE, mxE, mxE_congr (fun e he => q e (by omega)), q n (by omega)]
theorem wC_in (g : Nat) (pf : Nat → Int32) (nm : Nat → Nat) (s0 goal br : Int32) (i : Nat) : ∃ c, c < 5 ∧ wC g pf nm s0 goal br i = nI c := by
  unfold wC cmv
  split
  · exact ⟨0, by decide, rfl⟩
  · exact ans_in _ _ _ _
theorem wF_in (g : Nat) (pf : Nat → Int32) (nm : Nat → Nat) (s0 goal br : Int32) (i f : Nat) : ∃ e, e < 6 ∧ wF g pf nm s0 goal br i f + 1 = nI e := by
  induction i with
  | zero => exact ⟨0, by decide, show (-1 : Int32) + 1 = nI 0 by decide⟩
  | succ i ih =>
    rw [wF]
    split
    · obtain ⟨c, hc, e⟩ := wC_in g pf nm s0 goal br i
      exact ⟨c + 1, by omega, by rw [e, nI_1]⟩
    · exact ih
theorem plI_le (cm sx : Nat → Int32) : ∀ (d i : Nat) (s : Int32), (plI cm sx d i s).1 ≤ i + d
  | 0, i, s => Nat.le_refl _
  | d + 1, i, s => by
    rw [plI]
    have h1 := plI_le cm sx d (i + 1) s
    have h2 := plI_le cm sx d (i + 1) (seedI s)
    split
    · split
      · omega
      · show i ≤ _; omega
    · omega
def galS (cm sx inn : Nat → Int32) (h : Nat) (win : Bool) (seed : Int32) : Nat → Int32 × Int32 × Int32
  | 0 => (seed, 0, 0)
  | t + 1 => ((plI cm sx h 0 (galS cm sx inn h win seed t).1).2, (if (plI cm sx h 0 (galS cm sx inn h win seed t).1).1 = h ∧ win = true then (galS cm sx inn h win seed t).2.1 + 1 else (galS cm sx inn h win seed t).2.1), (galS cm sx inn h win seed t).2.2 + inn (plI cm sx h 0 (galS cm sx inn h win seed t).1).1)
theorem lc_nx (e : Nat) : nI e - 1 + 1 = nI (e + 1) - 1 := by rw [nI_pred, Int32.sub_add_cancel]
theorem lc_ge : ∀ e, e < 7 → ((5 : Int32) ≤ nI e - 1 ↔ 6 ≤ e) := by decide +kernel
theorem n_pos {n : Int32} (h : ¬ n < 1) : ¬ n < 0 := fun q => by
  apply h
  rw [Int32.lt_iff_toInt_lt] at q ⊢
  have e1 : (0 : Int32).toInt = 0 := by decide
  have e2 : (1 : Int32).toInt = 1 := by decide
  omega
set_option maxRecDepth 100000 in
theorem ev_X3_init (x s : Int32) : Ev MX3_init [.ref 0, .int s] [zO 2 [.int x]] (Rw none [zO 2 [.int s]]) := by
  refine ev_of bX3_init [some (.ref 0), some (.int s)] (Nat.le_of_ble_eq_true rfl) rfl ?_
  refine go_aload_n dX3_init_0 rfl ?_
  refine go_objInit dX3_init_1 lX3_1 oiW ocW (Nat.le_of_ble_eq_true rfl) (Nat.le_of_ble_eq_true rfl) ?_
  refine go_aload_n dX3_init_4 rfl ?_
  refine go_iload_n dX3_init_5 rfl ?_
  refine go_putf fX3_7 dX3_init_6 rfl (fun _ _ _ h => by cases h; rfl) (fun _ => rfl) (fun _ => rfl) (Nat.le_of_ble_eq_true rfl) ?_
  refine go_return dX3_init_9 rfl (Nat.le_of_ble_eq_true rfl) (Nat.le_of_ble_eq_true rfl) ?_
  exact ⟨rfl, rfl⟩
set_option maxRecDepth 100000 in
theorem ev_X11_tallyFates (t0 t1 : TX) (G N : TG) (T : TT) (C D : TC) (P : TP) (S : TS) (H0 H1 H2 H3 : TH) (ta : Nat → Int32) (lf : Int32) (hG : G.1 ≤ 8) (hN : NOK N) (hS : S.1 ≤ 8) : Ev MX11_tallyFates [.ref 0] (cwd t0 t1 G N T C D P S H0 H1 H2 H3 ta lf) (fun v w => v = none ∧ ∃ (D2 : TC) (ta2 : Nat → Int32), w = (cwd t0 t1 G N T C D2 P S H0 H1 H2 H3 ta2 lf) ∧ ∀ f e, f < 8 → e < 6 → ta2 (6 * f + e) = tlC (fun v => seenB G.1 G.2.2 (nmR N.2.2) (nI T.1) (nI T.2.1) (nI v) N.1 S) (fun b f => wF G.1 G.2.2 (nmR N.2.2) (nI T.1) (nI T.2.1) (nI b) N.1 f) f e 10) := by
  refine ev_of bX11_tallyFates [some (.ref 0), none, none] (Nat.le_of_ble_eq_true rfl) rfl ?_
  refine go_iconst (0) dX11_tallyFates_0 (by decide) ?_
  refine go_istore_n dX11_tallyFates_1 (by decide) ?_
  suffices zero : ∀ (d i : Nat) (ta : Nat → Int32), i + d = 48 → (∀ j, j < i → ta j = 0) → Go X0 MX11_tallyFates (fun v w => v = none ∧ ∃ (D2 : TC) (ta2 : Nat → Int32), w = (cwd t0 t1 G N T C D2 P S H0 H1 H2 H3 ta2 lf) ∧ ∀ f e, f < 8 → e < 6 → ta2 (6 * f + e) = tlC (fun v => seenB G.1 G.2.2 (nmR N.2.2) (nI T.1) (nI T.2.1) (nI v) N.1 S) (fun b f => wF G.1 G.2.2 (nmR N.2.2) (nI T.1) (nI T.2.1) (nI b) N.1 f) f e 10) 44 0 0 2 [some (.ref 0), some (.int (nI i)), none] [] (cwd t0 t1 G N T C D P S H0 H1 H2 H3 ta lf) from zero 48 0 ta (by omega) (fun j h => absurd h (by omega))
  intro d
  induction d with
  | zero =>
    intro i ta hi hz
    refine go_iload_n dX11_tallyFates_2 rfl ?_
    refine go_aload_n dX11_tallyFates_3 rfl ?_
    refine go_getf fX11_72 dX11_tallyFates_4 rfl rfl ?_
    refine go_alen 48 dX11_tallyFates_7 rfl rfl ?_
    refine go_icmp_ge 24 dX11_tallyFates_8 (by decide) (fun _ => ?_) (fun c_8 => absurd (nI_le (a := 48) (by omega) (by omega)) c_8)
    refine go_iconst (0) dX11_tallyFates_24 (by decide) ?_
    refine go_istore_n dX11_tallyFates_25 (by decide) ?_
    suffices loop : ∀ (d b : Nat) (D : TC) (ta : Nat → Int32) (x2 : Option Value), b + d = 10 → (∀ f e, f < 8 → e < 6 → ta (6 * f + e) = tlC (fun v => seenB G.1 G.2.2 (nmR N.2.2) (nI T.1) (nI T.2.1) (nI v) N.1 S) (fun b f => wF G.1 G.2.2 (nmR N.2.2) (nI T.1) (nI T.2.1) (nI b) N.1 f) f e b) → Go X0 MX11_tallyFates (fun v w => v = none ∧ ∃ (D2 : TC) (ta2 : Nat → Int32), w = (cwd t0 t1 G N T C D2 P S H0 H1 H2 H3 ta2 lf) ∧ ∀ f e, f < 8 → e < 6 → ta2 (6 * f + e) = tlC (fun v => seenB G.1 G.2.2 (nmR N.2.2) (nI T.1) (nI T.2.1) (nI v) N.1 S) (fun b f => wF G.1 G.2.2 (nmR N.2.2) (nI T.1) (nI T.2.1) (nI b) N.1 f) f e 10) 44 0 0 26 [some (.ref 0), some (.int (nI b)), x2] [] (cwd t0 t1 G N T C D P S H0 H1 H2 H3 ta lf) from loop 10 0 D ta _ (by omega) (fun f e hf he => hz _ (by omega))
    clear hz hi
    intro d
    induction d with
    | zero =>
      intro b D ta x2 hb hv
      obtain rfl : b = 10 := by omega
      refine go_iload_n dX11_tallyFates_26 rfl ?_
      refine go_bipush (10) dX11_tallyFates_27 (by decide) ?_
      refine go_icmp_ge 95 dX11_tallyFates_29 (by decide) (fun _ => ?_) (fun c_29 => absurd (by decide) c_29)
      refine go_return dX11_tallyFates_95 rfl (Nat.le_of_ble_eq_true rfl) (Nat.le_of_ble_eq_true rfl) ?_
      exact ⟨rfl, D, ta, rfl, hv⟩
    | succ d ih =>
      intro b D ta x2 hb hv
      refine go_iload_n dX11_tallyFates_26 rfl ?_
      refine go_bipush (10) dX11_tallyFates_27 (by decide) ?_
      refine go_icmp_ge 95 dX11_tallyFates_29 (by decide) (fun c_29 => absurd c_29 (nI_ge (b := 10) (by omega) (by decide))) (fun _ => ?_)
      refine go_aload_n dX11_tallyFates_32 rfl ?_
      refine go_iload_n dX11_tallyFates_33 rfl ?_
      refine go_callVs (z := MX11_tryBribe) dX11_tallyFates_34 lX11_198 sX11_tryBribe (ev_X11_tryBribe t0 t1 G N T C D P S H0 H1 H2 H3 ta lf (nI b) hG hN) rfl rfl rfl ⟨_, _, rfl⟩ rfl rfl (fun v w1 h => by obtain ⟨-, D2, rfl, -⟩ := h; rfl) (fun v_34 w_34 h_34 => ?_)
      obtain ⟨rfl, ⟨d1, d2, D2⟩, rfl, hd1, hd2, hI⟩ := h_34
      dsimp only at hd1 hd2 hI
      subst hd1
      subst hd2
      refine go_aload_n dX11_tallyFates_37 rfl ?_
      refine go_getf fX11_62 dX11_tallyFates_38 rfl rfl ?_
      refine go_aload_n dX11_tallyFates_41 rfl ?_
      refine go_getf fX11_49 dX11_tallyFates_42 rfl rfl ?_
      refine go_callVi (z := MX7_comeOutBy) [31, 32, 33, 18, 19, 20, 21, 22, 23, 24, 25] dX11_tallyFates_45 lX11_228 sX7_comeOutBy (ev_X7_comeOutBy _ _ _ _ _ _ _ _ _ _ S.1 hS _ _) rfl rfl rfl rfl rfl ⟨_, _, rfl⟩ rfl rfl ?_
      rw [okD_congr (fun f hf => hI.2.2.1 f hf) S.1 0]
      rw [show okD (wF G.1 G.2.2 (nmR N.2.2) (nI T.1) (nI T.2.1) (nI b) N.1) S.2.1 S.2.2 S.1 0 = (fun v => seenB G.1 G.2.2 (nmR N.2.2) (nI T.1) (nI T.2.1) (nI v) N.1 S) b from rfl]
      refine go_if_eq 89 dX11_tallyFates_48 (by decide) (fun c_48 => ?_) (fun c_48 => ?_)
      · refine go_iincN (1) dX11_tallyFates_89 rfl (by decide) (by decide) ?_
        refine go_goto 26 dX11_tallyFates_92 (by decide) ?_
        rw [nI_1]
        refine ih (b + 1) (nI N.1, nI T.2.1, D2) ta _ (by omega) (fun f e hf he => ?_)
        rw [hv f e hf he, tlC, if_neg (fun q => bool0 c_48 q.1)]
      · refine go_iconst (0) dX11_tallyFates_51 (by decide) ?_
        refine go_istore_n dX11_tallyFates_52 (by decide) ?_
        have hok := bool1 c_48
        suffices inner : ∀ (d i : Nat) (ta : Nat → Int32), i + d = 8 → (∀ f e, f < i → e < 6 → ta (6 * f + e) = tlC (fun v => seenB G.1 G.2.2 (nmR N.2.2) (nI T.1) (nI T.2.1) (nI v) N.1 S) (fun b f => wF G.1 G.2.2 (nmR N.2.2) (nI T.1) (nI T.2.1) (nI b) N.1 f) f e (b + 1)) → (∀ f e, i ≤ f → f < 8 → e < 6 → ta (6 * f + e) = tlC (fun v => seenB G.1 G.2.2 (nmR N.2.2) (nI T.1) (nI T.2.1) (nI v) N.1 S) (fun b f => wF G.1 G.2.2 (nmR N.2.2) (nI T.1) (nI T.2.1) (nI b) N.1 f) f e b) → Go X0 MX11_tallyFates (fun v w => v = none ∧ ∃ (D2 : TC) (ta2 : Nat → Int32), w = (cwd t0 t1 G N T C D2 P S H0 H1 H2 H3 ta2 lf) ∧ ∀ f e, f < 8 → e < 6 → ta2 (6 * f + e) = tlC (fun v => seenB G.1 G.2.2 (nmR N.2.2) (nI T.1) (nI T.2.1) (nI v) N.1 S) (fun b f => wF G.1 G.2.2 (nmR N.2.2) (nI T.1) (nI T.2.1) (nI b) N.1 f) f e 10) 44 0 0 53 [some (.ref 0), some (.int (nI b)), some (.int (nI i))] [] (cwd t0 t1 G N T C (nI N.1, nI T.2.1, D2) P S H0 H1 H2 H3 ta lf) from inner 8 0 ta (by omega) (fun f e h => absurd h (by omega)) (fun f e _ hf he => hv f e hf he)
        intro d
        induction d with
        | zero =>
          intro i ta hi h1 h2
          refine go_iload_n dX11_tallyFates_53 rfl ?_
          refine go_bipush (8) dX11_tallyFates_54 (by decide) ?_
          refine go_icmp_ge 89 dX11_tallyFates_56 (by decide) (fun _ => ?_) (fun c_56 => absurd (nI_le (a := 8) (by omega) (by omega)) c_56)
          refine go_iincN (1) dX11_tallyFates_89 rfl (by decide) (by decide) ?_
          refine go_goto 26 dX11_tallyFates_92 (by decide) ?_
          rw [nI_1]
          exact ih (b + 1) (nI N.1, nI T.2.1, D2) ta _ (by omega) (fun f e hf he => h1 f e (by omega) he)
        | succ d ih2 =>
          intro i ta hi h1 h2
          obtain ⟨e0, he0, hF⟩ := wF_in G.1 G.2.2 (nmR N.2.2) (nI T.1) (nI T.2.1) (nI b) N.1 i
          refine go_iload_n dX11_tallyFates_53 rfl ?_
          refine go_bipush (8) dX11_tallyFates_54 (by decide) ?_
          refine go_icmp_ge 89 dX11_tallyFates_56 (by decide) (fun c_56 => absurd c_56 (nI_ge (b := 8) (by omega) (by decide))) (fun _ => ?_)
          refine go_aload_n dX11_tallyFates_59 rfl ?_
          refine go_getf fX11_72 dX11_tallyFates_60 rfl rfl ?_
          refine go_iload_n dX11_tallyFates_63 rfl ?_
          refine go_bipush (6) dX11_tallyFates_64 (by decide) ?_
          refine go_imul dX11_tallyFates_66 ?_
          refine go_aload_n dX11_tallyFates_67 rfl ?_
          refine go_getf fX11_49 dX11_tallyFates_68 rfl rfl ?_
          refine go_iload_n dX11_tallyFates_71 rfl ?_
          refine go_callVi (z := MX0_fateOf) [18, 19, 20, 21, 22, 23, 24, 25] dX11_tallyFates_72 lX11_181 sX0_fateOf (ev_X0_fateOf _ _ _ _ _ _ _ _ _ _ _) rfl rfl rfl rfl rfl ⟨_, _, rfl⟩ rfl rfl ?_
          rw [fate_in (show i < 8 by omega), hI.2.2.1 i (by omega)]
          refine go_iadd dX11_tallyFates_75 ?_
          refine go_iconst (1) dX11_tallyFates_76 (by decide) ?_
          refine go_iadd dX11_tallyFates_77 ?_
          rw [Int32.add_assoc, hF, show nI i * 6 + nI e0 = nI (6 * i + e0) by rw [show (6 : Int32) = nI 6 from rfl, pk_mul, nI_add]; exact nI_e (by omega)]
          refine go_dup2 dX11_tallyFates_78 rfl rfl ?_
          refine go_iald dX11_tallyFates_79 rfl (vp_in_nI (by omega) (by decide)) ?_
          refine go_iconst (1) dX11_tallyFates_80 (by decide) ?_
          refine go_iadd dX11_tallyFates_81 ?_
          refine go_iast dX11_tallyFates_82 rfl (vp_in_nI (by omega) (by decide)) ?_
          refine go_iincN (1) dX11_tallyFates_83 rfl (by decide) (by decide) ?_
          refine go_goto 53 dX11_tallyFates_86 (by decide) ?_
          rw [nI_1]
          simp only [nI_clamp (show 6 * i + e0 < 2 ^ 31 by omega)]
          refine ih2 (i + 1) _ (by omega) (fun f e hf he => ?_) (fun f e hf hf8 he => ?_)
          · by_cases hfi : f = i
            · subst hfi
              rw [tlC]
              by_cases hee : e = e0
              · subst hee
                rw [pk_us, if_pos ⟨hok, hF⟩, h2 f e (Nat.le_refl _) (by omega) he]
              · rw [pk_un (by omega), if_neg, h2 f e (Nat.le_refl _) (by omega) he]
                rintro ⟨-, q⟩
                exact hee ((nI_eq (by omega) (by omega)).mp (q.symm.trans hF))
            · rw [pk_un (by omega)]
              exact h1 f e (by omega) he
          · rw [pk_un (by omega)]
            exact h2 f e (by omega) hf8 he
  | succ d ih =>
    intro i ta hi hz
    refine go_iload_n dX11_tallyFates_2 rfl ?_
    refine go_aload_n dX11_tallyFates_3 rfl ?_
    refine go_getf fX11_72 dX11_tallyFates_4 rfl rfl ?_
    refine go_alen 48 dX11_tallyFates_7 rfl rfl ?_
    refine go_icmp_ge 24 dX11_tallyFates_8 (by decide) (fun c_8 => absurd c_8 (nI_ge (b := 48) (by omega) (by decide))) (fun _ => ?_)
    refine go_aload_n dX11_tallyFates_11 rfl ?_
    refine go_getf fX11_72 dX11_tallyFates_12 rfl rfl ?_
    refine go_iload_n dX11_tallyFates_15 rfl ?_
    refine go_iconst (0) dX11_tallyFates_16 (by decide) ?_
    refine go_iast dX11_tallyFates_17 rfl (vp_in_nI (by omega) (by decide)) ?_
    refine go_iincN (1) dX11_tallyFates_18 rfl (by decide) (by decide) ?_
    refine go_goto 2 dX11_tallyFates_21 (by decide) ?_
    rw [nI_1]
    simp only [nI_clamp (show i < 2 ^ 31 by omega)]
    exact ih (i + 1) (upd ta i 0) (by omega) (fun j h => by
      by_cases hj : j = i
      · subst hj; exact pk_us
      · rw [pk_un hj]; exact hz j (by omega))
set_option maxRecDepth 100000 in
theorem ev_X11_mostAlike (t0 t1 : TX) (G N : TG) (T : TT) (C D : TC) (P : TP) (S : TS) (H0 H1 H2 H3 : TH) (ta : Nat → Int32) (lf : Int32) (j : Nat) (hj : j < 8) : Ev MX11_mostAlike [.ref 0, .int (nI j)] (cwd t0 t1 G N T C D P S H0 H1 H2 H3 ta lf) (Ri (cwd t0 t1 G N T C D P S H0 H1 H2 H3 ta lf) (mxE (fun e => ta (6 * j + e)) 6)) := by
  refine ev_of bX11_mostAlike [some (.ref 0), some (.int (nI j)), none, none] (Nat.le_of_ble_eq_true rfl) rfl ?_
  refine go_iconst (0) dX11_mostAlike_0 (by decide) ?_
  refine go_istore_n dX11_mostAlike_1 (by decide) ?_
  refine go_iconst (-1) dX11_mostAlike_2 (by decide) ?_
  refine go_istore_n dX11_mostAlike_3 (by decide) ?_
  suffices loop : ∀ (d e : Nat), e + d = 6 → Go X0 MX11_mostAlike (Ri (cwd t0 t1 G N T C D P S H0 H1 H2 H3 ta lf) (mxE (fun e => ta (6 * j + e)) 6)) 44 0 0 4 [some (.ref 0), some (.int (nI j)), some (.int (mxE (fun e => ta (6 * j + e)) e)), some (.int (nI e - 1))] [] (cwd t0 t1 G N T C D P S H0 H1 H2 H3 ta lf) from loop 6 0 (by omega)
  intro d
  induction d with
  | zero =>
    intro e he
    obtain rfl : e = 6 := by omega
    refine go_iload_n dX11_mostAlike_4 rfl ?_
    refine go_iconst (5) dX11_mostAlike_5 (by decide) ?_
    refine go_icmp_ge 33 dX11_mostAlike_6 (by decide) (fun _ => ?_) (fun c_6 => absurd (by decide) c_6)
    refine go_iload_n dX11_mostAlike_33 rfl ?_
    refine go_ireturn dX11_mostAlike_34 rfl rfl (Nat.le_of_ble_eq_true rfl) (Nat.le_of_ble_eq_true rfl) ?_
    exact ⟨rfl, rfl⟩
  | succ d ih =>
    intro e he
    refine go_iload_n dX11_mostAlike_4 rfl ?_
    refine go_iconst (5) dX11_mostAlike_5 (by decide) ?_
    refine go_icmp_ge 33 dX11_mostAlike_6 (by decide) (fun c_6 => absurd c_6 (fun q => absurd ((lc_ge e (by omega)).mp q) (by omega))) (fun _ => ?_)
    refine go_iload_n dX11_mostAlike_9 rfl ?_
    refine go_aload_n dX11_mostAlike_10 rfl ?_
    refine go_getf fX11_72 dX11_mostAlike_11 rfl rfl ?_
    refine go_iload_n dX11_mostAlike_14 rfl ?_
    refine go_bipush (6) dX11_mostAlike_15 (by decide) ?_
    refine go_imul dX11_mostAlike_17 ?_
    refine go_iload_n dX11_mostAlike_18 rfl ?_
    refine go_iadd dX11_mostAlike_19 ?_
    refine go_iconst (1) dX11_mostAlike_20 (by decide) ?_
    refine go_iadd dX11_mostAlike_21 ?_
    rw [Int32.add_assoc, Int32.sub_add_cancel, show nI j * 6 + nI e = nI (6 * j + e) by rw [show (6 : Int32) = nI 6 from rfl, pk_mul, nI_add]; exact nI_e (by omega)]
    refine go_iald dX11_mostAlike_22 rfl (vp_in_nI (by omega) (by decide)) ?_
    rw [nI_clamp (show 6 * j + e < 2 ^ 31 by omega)]
    refine go_max dX11_mostAlike_23 lX11_381 (Nat.le_of_ble_eq_true rfl) (Nat.le_of_ble_eq_true rfl) (Nat.le_of_ble_eq_true rfl) (Nat.le_of_ble_eq_true rfl) ?_
    refine go_istore_n dX11_mostAlike_26 (by decide) ?_
    refine go_iincN (1) dX11_mostAlike_27 rfl (by decide) (by decide) ?_
    refine go_goto 4 dX11_mostAlike_30 (by decide) ?_
    rw [lc_nx]
    have k9 := ih (e + 1) (by omega)
    rw [mxE_lt (e := e)] at k9
    exact k9
set_option maxRecDepth 100000 in
theorem ev_X11_ask (t0 t1 : TX) (G N : TG) (T : TT) (C D : TC) (P : TP) (S : TS) (H0 H1 H2 H3 : TH) (ta : Nat → Int32) (lf : Int32) (hG : G.1 ≤ 8) (hN : NOK N) (hS : S.1 ≤ 8) : Ev MX11_ask [.ref 0] (cwd t0 t1 G N T C D P S H0 H1 H2 H3 ta lf) (fun v w => v = some (.int (askI (fun f => mxE (fun e => tlC (fun v => seenB G.1 G.2.2 (nmR N.2.2) (nI T.1) (nI T.2.1) (nI v) N.1 S) (fun b f => wF G.1 G.2.2 (nmR N.2.2) (nI T.1) (nI T.2.1) (nI b) N.1 f) f e 10) 6) G.1).1) ∧ ∃ (D2 : TC) (ta2 : Nat → Int32), w = (cwd t0 t1 G N T C D2 P S H0 H1 H2 H3 ta2 lf)) := by
  refine ev_of bX11_ask [some (.ref 0), none, none, none, none] (Nat.le_of_ble_eq_true rfl) rfl ?_
  refine go_aload_n dX11_ask_0 rfl ?_
  refine go_callVs (z := MX11_tallyFates) dX11_ask_1 lX11_235 sX11_tallyFates (ev_X11_tallyFates t0 t1 G N T C D P S H0 H1 H2 H3 ta lf hG hN hS) rfl rfl rfl ⟨_, _, rfl⟩ rfl rfl (fun v w1 h => by obtain ⟨-, D2, ta2, rfl, -⟩ := h; rfl) (fun v_1 w_1 h_1 => ?_)
  obtain ⟨rfl, D2, ta2, rfl, hv⟩ := h_1
  refine go_iconst (-1) dX11_ask_4 (by decide) ?_
  refine go_istore_n dX11_ask_5 (by decide) ?_
  refine go_bipush (11) dX11_ask_6 (by decide) ?_
  refine go_istore_n dX11_ask_8 (by decide) ?_
  refine go_iconst (0) dX11_ask_9 (by decide) ?_
  refine go_istore_n dX11_ask_10 (by decide) ?_
  suffices loop : ∀ (d i : Nat) (x4 : Option Value), i + d = G.1 → Go X0 MX11_ask (fun v w => v = some (.int (askI (fun f => mxE (fun e => tlC (fun v => seenB G.1 G.2.2 (nmR N.2.2) (nI T.1) (nI T.2.1) (nI v) N.1 S) (fun b f => wF G.1 G.2.2 (nmR N.2.2) (nI T.1) (nI T.2.1) (nI b) N.1 f) f e 10) 6) G.1).1) ∧ ∃ (D2 : TC) (ta2 : Nat → Int32), w = (cwd t0 t1 G N T C D2 P S H0 H1 H2 H3 ta2 lf)) 44 0 0 11 [some (.ref 0), some (.int (askI (fun f => mxE (fun e => tlC (fun v => seenB G.1 G.2.2 (nmR N.2.2) (nI T.1) (nI T.2.1) (nI v) N.1 S) (fun b f => wF G.1 G.2.2 (nmR N.2.2) (nI T.1) (nI T.2.1) (nI b) N.1 f) f e 10) 6) i).1), some (.int (askI (fun f => mxE (fun e => tlC (fun v => seenB G.1 G.2.2 (nmR N.2.2) (nI T.1) (nI T.2.1) (nI v) N.1 S) (fun b f => wF G.1 G.2.2 (nmR N.2.2) (nI T.1) (nI T.2.1) (nI b) N.1 f) f e 10) 6) i).2), some (.int (nI i)), x4] [] (cwd t0 t1 G N T C D2 P S H0 H1 H2 H3 ta2 lf) from loop G.1 0 _ (by omega)
  intro d
  induction d with
  | zero =>
    intro i x4 hi
    obtain rfl : i = G.1 := by omega
    refine go_iload_n dX11_ask_11 rfl ?_
    refine go_aload_n dX11_ask_12 rfl ?_
    refine go_getf fX11_24 dX11_ask_13 rfl rfl ?_
    refine go_getf fX11_238 dX11_ask_16 rfl rfl ?_
    refine go_icmp_ge 46 dX11_ask_19 (by decide) (fun _ => ?_) (fun c_19 => absurd (Int32.le_refl _) c_19)
    refine go_iload_n dX11_ask_46 rfl ?_
    refine go_ireturn dX11_ask_47 rfl rfl (Nat.le_of_ble_eq_true rfl) (Nat.le_of_ble_eq_true rfl) ?_
    exact ⟨rfl, D2, ta2, rfl⟩
  | succ d ih =>
    intro i x4 hi
    have hm : mxE (fun e => ta2 (6 * i + e)) 6 = (fun f => mxE (fun e => tlC (fun v => seenB G.1 G.2.2 (nmR N.2.2) (nI T.1) (nI T.2.1) (nI v) N.1 S) (fun b f => wF G.1 G.2.2 (nmR N.2.2) (nI T.1) (nI T.2.1) (nI b) N.1 f) f e 10) 6) i := mxE_congr (fun e he => hv i e (by omega) he)
    refine go_iload_n dX11_ask_11 rfl ?_
    refine go_aload_n dX11_ask_12 rfl ?_
    refine go_getf fX11_24 dX11_ask_13 rfl rfl ?_
    refine go_getf fX11_238 dX11_ask_16 rfl rfl ?_
    refine go_icmp_ge 46 dX11_ask_19 (by decide) (fun c_19 => absurd c_19 (nI_ge (by omega) (by omega))) (fun _ => ?_)
    refine go_aload_n dX11_ask_22 rfl ?_
    refine go_iload_n dX11_ask_23 rfl ?_
    refine go_callVsi (z := MX11_mostAlike) dX11_ask_24 lX11_239 sX11_mostAlike (ev_X11_mostAlike t0 t1 G N T C D2 P S H0 H1 H2 H3 ta2 lf i (by omega)) rfl rfl rfl ⟨_, _, rfl⟩ rfl rfl ?_
    rw [hm]
    refine go_istore dX11_ask_27 (by decide) ?_
    refine go_iload dX11_ask_29 rfl ?_
    refine go_iload_n dX11_ask_31 rfl ?_
    refine go_icmp_ge 40 dX11_ask_32 (by decide) (fun c_32 => ?_) (fun c_32 => ?_)
    · refine go_iincN (1) dX11_ask_40 rfl (by decide) (by decide) ?_
      refine go_goto 11 dX11_ask_43 (by decide) ?_
      rw [nI_1]
      have e := ih (i + 1)
      first
        | (rw [askI_le (mA := (fun f => mxE (fun e => tlC (fun v => seenB G.1 G.2.2 (nmR N.2.2) (nI T.1) (nI T.2.1) (nI v) N.1 S) (fun b f => wF G.1 G.2.2 (nmR N.2.2) (nI T.1) (nI T.2.1) (nI b) N.1 f) f e 10) 6)) (f := i) c_32] at e; exact e _ (by omega))
        | (rw [askI_gt (mA := (fun f => mxE (fun e => tlC (fun v => seenB G.1 G.2.2 (nmR N.2.2) (nI T.1) (nI T.2.1) (nI v) N.1 S) (fun b f => wF G.1 G.2.2 (nmR N.2.2) (nI T.1) (nI T.2.1) (nI b) N.1 f) f e 10) 6)) (f := i) c_32] at e; exact e _ (by omega))
    · refine go_iload dX11_ask_35 rfl ?_
      refine go_istore_n dX11_ask_37 (by decide) ?_
      refine go_iload_n dX11_ask_38 rfl ?_
      refine go_istore_n dX11_ask_39 (by decide) ?_
      refine go_iincN (1) dX11_ask_40 rfl (by decide) (by decide) ?_
      refine go_goto 11 dX11_ask_43 (by decide) ?_
      rw [nI_1]
      have e := ih (i + 1)
      first
        | (rw [askI_le (mA := (fun f => mxE (fun e => tlC (fun v => seenB G.1 G.2.2 (nmR N.2.2) (nI T.1) (nI T.2.1) (nI v) N.1 S) (fun b f => wF G.1 G.2.2 (nmR N.2.2) (nI T.1) (nI T.2.1) (nI b) N.1 f) f e 10) 6)) (f := i) c_32] at e; exact e _ (by omega))
        | (rw [askI_gt (mA := (fun f => mxE (fun e => tlC (fun v => seenB G.1 G.2.2 (nmR N.2.2) (nI T.1) (nI T.2.1) (nI v) N.1 S) (fun b f => wF G.1 G.2.2 (nmR N.2.2) (nI T.1) (nI T.2.1) (nI b) N.1 f) f e 10) 6)) (f := i) c_32] at e; exact e _ (by omega))
