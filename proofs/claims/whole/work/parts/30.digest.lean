def dgs (h : Int64) (l : List Int64) : Int64 := l.foldl (fun h x => 31 * h + x) h
def dgN (a : Nat → List Int64) (h : Int64) : Nat → Int64
  | 0 => h
  | i + 1 => dgs (dgN a h i) (a i)
theorem nI_nn {f : Nat} (h : f < 2 ^ 31) : ¬ nI f < 0 := fun q => by
  have := (nI_ltI (b := 0) h (by decide)).mp q
  omega
theorem fel_at {pf : Nat → Int32} {g f k : Nat} {y : Int32} (hf : f < g) (hg : g ≤ 8) (hy : y = nI k) (hk : k ≤ 4) : (if nI f < 0 ∨ nI g ≤ nI f ∨ y < 0 ∨ 4 < y then (-2 : Int32) else pf (5 * (nI f).toNatClampNeg + y.toNatClampNeg)) = pf (5 * f + k) := by
  subst hy
  rw [if_neg, nI_clamp (by omega), nI_clamp (by omega)]
  rintro (q | q | q | q)
  · exact nI_nn (by omega) q
  · exact nI_ge hf (by omega) q
  · exact nI_nn (by omega) q
  · exact absurd ((nI_ltI (a := 4) (by decide) (by omega)).mp q) (by omega)
theorem gang_at {Z : Int32} {g f : Nat} (hf : f < g) (hg : g ≤ 8) : (if nI f < 0 ∨ nI g ≤ nI f then (-2 : Int32) else Z) = Z := by
  rw [if_neg]
  rintro (q | q)
  · exact nI_nn (by omega) q
  · exact nI_ge hf (by omega) q
theorem fate_at {ft : Nat → Int32} {g f : Nat} (hf : f < g) (hg : g ≤ 8) : (if nI f < 0 ∨ nI g ≤ nI f then (-2 : Int32) else if nI f < 0 ∨ 8 ≤ nI f then -1 else ft (nI f).toNatClampNeg) = ft f := by
  rw [gang_at hf hg, if_neg (fun q => q.elim (nI_nn (by omega)) (nI_ge (b := 8) (by omega) (by decide))), nI_clamp (by omega)]
theorem name_at {r : Nat → Int32} {n i : Nat} (hi : i < n) (hn : n ≤ 12) : (if nI i < 0 ∨ ¬ nI i < 12 then (-2 : Int32) else if nI i < 0 ∨ nI n ≤ nI i then -1 else r (nI i).toNatClampNeg) = r i := by
  rw [if_neg (fun q => q.elim (nI_nn (by omega)) (fun q => q (nI_lt (b := 12) (by omega) (by decide)))), if_neg (fun q => q.elim (nI_nn (by omega)) (nI_ge hi (by omega))), nI_clamp (by omega)]
theorem come_at {a b : Nat → Int32} {n i : Nat} {y : Int32} (hi : i < n) (hn : n ≤ 12) (hy : y = 0 ∨ y = 1) : (if nI i < 0 ∨ nI n ≤ nI i ∨ ¬ (y = 0 ∨ y = 1) then (-2 : Int32) else if y = 0 then a (nI i).toNatClampNeg else b (nI i).toNatClampNeg) = if y = 0 then a i else b i := by
  rw [if_neg (fun q => q.elim (nI_nn (by omega)) (fun q => q.elim (nI_ge hi (by omega)) (fun q => q hy))), nI_clamp (by omega)]
theorem beh_at {α : Type} {z a b : α} {n i : Nat} {y : Int32} (hi : i ≤ n) (hn : n ≤ 12) (hy : y = 0 ∨ y = 1) : (if nI i < 0 ∨ nI n < nI i ∨ ¬ (y = 0 ∨ y = 1) then z else if y = 0 then a else b) = if y = 0 then a else b := by
  rw [if_neg (fun q => q.elim (nI_nn (by omega)) (fun q => q.elim (fun q => absurd ((nI_ltI (by omega) (by omega)).mp q) (by omega)) (fun q => q hy)))]
theorem aliv_at {z : Int64} {aa kk : Nat → Nat} {n i : Nat} {y : Int32} (hi : i ≤ n) (hn : n ≤ 12) (hy : y = 0 ∨ y = 1) : (if nI i < 0 ∨ nI n < nI i ∨ ¬ (y = 0 ∨ y = 1) then z else tolL (aa (nI i).toNatClampNeg) (4 * kk (nI i).toNatClampNeg) y) = tolL (aa i) (4 * kk i) y := by
  rw [if_neg (fun q => q.elim (nI_nn (by omega)) (fun q => q.elim (fun q => absurd ((nI_ltI (by omega) (by omega)).mp q) (by omega)) (fun q => q hy))), nI_clamp (by omega)]
theorem cnt_at {V : Nat → Int32} {k : Nat} (h : k < 9) : (if nI k < 0 ∨ 9 ≤ nI k then (-2 : Int32) else V (nI k).toNatClampNeg) = V k := by
  rw [if_neg (fun q => q.elim (nI_nn (by omega)) (nI_ge (b := 9) (by omega) (by decide))), nI_clamp (by omega)]
def aFel (G N : TG) (T : TT) (S : TS) (f : Nat) : List Int64 := [(G.2.2 (5 * f + 0)).toInt64, (G.2.2 (5 * f + 1)).toInt64, (G.2.2 (5 * f + 2)).toInt64, (G.2.2 (5 * f + 3)).toInt64, (G.2.2 (5 * f + 4)).toInt64, ((cC G N T).2.2.2.2.2.2.2.2.2 f).toInt64, (nI (chnN G.1 G.2.2 8 0 (nI f))).toInt64, (nI (brbN (fun v => seenB G.1 (upd G.2.2 (5 * f) (nI v)) (nmR N.2.2) (nI T.1) (nI T.2.1) (nI T.2.2) N.1 S) 4)).toInt64]
def aNam (G N : TG) (T : TT) (i : Nat) : List Int64 := [(N.2.2 i).toInt64, ((cC G N T).2.2.2.1 i).toInt64, ((cC G N T).2.2.2.2.1 i).toInt64]
def aBeh (G N : TG) (T : TT) (i : Nat) : List Int64 := [((cC G N T).2.2.2.2.2.1 i).toInt64, ((cC G N T).2.2.2.2.2.2.1 i).toInt64, tolL (aC G N T i) (4 * kC G N T i) 0, tolL (aC G N T i) (4 * kC G N T i) 1]
def aPl (G N : TG) (T : TT) (ln v0 : Nat) (row : Nat → Int32) : List Int64 := [tolL (lC G N T) (4 * T.2.1) 0, tolL (lC G N T) (4 * T.2.1) 1, tolL (harmC G N T) 32 0, tolL (harmC G N T) 32 1, (fwI (cC G N T).2.2.2.2.1 N.1).1.toInt64, (ordI (-1) ln row).toInt64, (ordI 0 ln row).toInt64, tolL v0 (4 * T.2.1) 0, tolL v0 (4 * T.2.1) 1, (prcI (fun v => lvI G.1 G.2.2 (nmR N.2.2) (nI T.1) (nI T.2.1) (nI v) N.1) 10).1.toInt64, (rulD (okR (fun k => lvI G.1 G.2.2 (nmR N.2.2) (nI T.1) (nI k) (nI T.2.2) N.1) 4) 8).toInt64, (rulD (okR (fun k => lvI G.1 G.2.2 (nmR N.2.2) (nI T.1) (nI k) (nI T.2.2) N.1) 9) 8).toInt64]
def aEnd (G N : TG) (T : TT) (S : TS) : List Int64 := [(nI (brbN (fun v => seenB G.1 G.2.2 (nmR N.2.2) (nI T.1) (nI T.2.1) (nI v) N.1 S) 10)).toInt64, (askI (fun f => mxE (fun e => tlC (fun v => seenB G.1 G.2.2 (nmR N.2.2) (nI T.1) (nI T.2.1) (nI v) N.1 S) (fun b f => wF G.1 G.2.2 (nmR N.2.2) (nI T.1) (nI T.2.1) (nI b) N.1 f) f e 10) 6) G.1).1.toInt64, (galC G N T 7 30).1.toInt64, (galC G N T 7 30).2.toInt64]
/-- the digest of a state -/
def dgst (t0 t1 : TX) (G N : TG) (T : TT) (S : TS) (lf : Int32) (ln v0 : Nat) (row : Nat → Int32) : Int64 :=
  dgs (dgs (dgN (aBeh G N T) (dgN (aNam G N T) (dgN (aFel G N T S) (dgs (dgN (fun j => [(cntV t0 t1 G N (cC G N T) S lf j).toInt64]) 17 8) [G.2.1.toInt64, N.2.1.toInt64]) G.1) N.1) (N.1 + 1)) (aPl G N T ln v0 row)) (aEnd G N T S)
set_option maxRecDepth 100000 in
theorem ev_X11_digestOfFelons (t0 t1 : TX) (G N : TG) (T : TT) (C D : TC) (P : TP) (S : TS) (H0 H1 H2 H3 : TH) (ta : Nat → Int32) (lf : Int32) (hG : G.1 ≤ 8) (hG2 : GOK G.1 G.2.2) (hN : NOK N) (hS : S.1 ≤ 8) (hT : T.1 ≤ 9 ∧ T.2.1 ≤ 8) (hC : CrsC G N T C) (h : Int64) : Ev MX11_digestOfFelons [.ref 0, .long h] (cwd t0 t1 G N T C D P S H0 H1 H2 H3 ta lf) (fun v w => v = some (.long (dgN (aFel G N T S) h G.1)) ∧ ∃ D2 : TC, w = (cwd t0 t1 G N T C D2 P S H0 H1 H2 H3 ta lf)) := by
  refine ev_of bX11_digestOfFelons [some (.ref 0), some (.long h), none, none, none, none, none] (Nat.le_of_ble_eq_true rfl) rfl ?_
  refine go_lload_n dX11_digestOfFelons_0 rfl ?_
  refine go_lstore_n dX11_digestOfFelons_1 (by decide) ?_
  refine go_iconst (0) dX11_digestOfFelons_2 (by decide) ?_
  refine go_istore dX11_digestOfFelons_3 (by decide) ?_
  suffices loop : ∀ (d f : Nat) (E : TC) (x6 : Option Value), f + d = G.1 → Go X0 MX11_digestOfFelons (fun v w => v = some (.long (dgN (aFel G N T S) h G.1)) ∧ ∃ D2 : TC, w = (cwd t0 t1 G N T C D2 P S H0 H1 H2 H3 ta lf)) 44 0 0 5 [some (.ref 0), some (.long h), none, some (.long (dgN (aFel G N T S) h f)), none, some (.int (nI f)), x6] [] (cwd t0 t1 G N T C E P S H0 H1 H2 H3 ta lf) from loop G.1 0 D _ (by omega)
  intro d
  induction d with
  | zero =>
    intro f E x6 hi
    refine go_iload dX11_digestOfFelons_5 rfl ?_
    refine go_aload_n dX11_digestOfFelons_7 rfl ?_
    refine go_getf fX11_24 dX11_digestOfFelons_8 rfl rfl ?_
    refine go_getf fX11_238 dX11_digestOfFelons_11 rfl rfl ?_
    refine go_icmp_ge 96 dX11_digestOfFelons_14 (by decide) (fun _ => ?_) (fun c_14 => absurd (nI_le (by omega) (by omega)) c_14)
    refine go_lload_n dX11_digestOfFelons_96 rfl ?_
    refine go_lreturn dX11_digestOfFelons_97 rfl (Nat.le_of_ble_eq_true rfl) (Nat.le_of_ble_eq_true rfl) ?_
    exact ⟨by rw [show f = G.1 by omega], E, rfl⟩
  | succ d ih =>
    intro f E x6 hi
    have hf : f < G.1 := by omega
    refine go_iload dX11_digestOfFelons_5 rfl ?_
    refine go_aload_n dX11_digestOfFelons_7 rfl ?_
    refine go_getf fX11_24 dX11_digestOfFelons_8 rfl rfl ?_
    refine go_getf fX11_238 dX11_digestOfFelons_11 rfl rfl ?_
    refine go_icmp_ge 96 dX11_digestOfFelons_14 (by decide) (fun c_14 => absurd c_14 (nI_ge hf (by omega))) (fun _ => ?_)
    refine go_iconst (0) dX11_digestOfFelons_17 (by decide) ?_
    refine go_istore dX11_digestOfFelons_18 (by decide) ?_
    refine go_iload dX11_digestOfFelons_20 rfl ?_
    refine go_iconst (4) dX11_digestOfFelons_22 (by decide) ?_
    refine go_icmp_gt 48 dX11_digestOfFelons_23 (by decide) (fun c_23 => absurd c_23 (by decide)) (fun _ => ?_)
    refine go_ldc2_w dX11_digestOfFelons_26 kX11_297 ?_
    refine go_lload_n dX11_digestOfFelons_29 rfl ?_
    refine go_lmul dX11_digestOfFelons_30 ?_
    refine go_aload_n dX11_digestOfFelons_31 rfl ?_
    refine go_iload dX11_digestOfFelons_32 rfl ?_
    refine go_iload dX11_digestOfFelons_34 rfl ?_
    refine go_callVsi (z := MX11_felon) dX11_digestOfFelons_36 lX11_325 sX11_felon (ev_X11_felon t0 t1 G N T C E P S H0 H1 H2 H3 ta lf (nI f) _ hG) rfl rfl rfl ⟨_, _, rfl⟩ rfl rfl ?_
    rw [fel_at (k := 0) hf hG (by decide) (by decide)]
    refine go_i2l dX11_digestOfFelons_39 ?_
    refine go_ladd dX11_digestOfFelons_40 ?_
    refine go_lstore_n dX11_digestOfFelons_41 (by decide) ?_
    refine go_iincN (1) dX11_digestOfFelons_42 rfl (by decide) (by decide) ?_
    refine go_goto 20 dX11_digestOfFelons_45 (by decide) ?_
    refine go_iload dX11_digestOfFelons_20 rfl ?_
    refine go_iconst (4) dX11_digestOfFelons_22 (by decide) ?_
    refine go_icmp_gt 48 dX11_digestOfFelons_23 (by decide) (fun c_23 => absurd c_23 (by decide)) (fun _ => ?_)
    refine go_ldc2_w dX11_digestOfFelons_26 kX11_297 ?_
    refine go_lload_n dX11_digestOfFelons_29 rfl ?_
    refine go_lmul dX11_digestOfFelons_30 ?_
    refine go_aload_n dX11_digestOfFelons_31 rfl ?_
    refine go_iload dX11_digestOfFelons_32 rfl ?_
    refine go_iload dX11_digestOfFelons_34 rfl ?_
    refine go_callVsi (z := MX11_felon) dX11_digestOfFelons_36 lX11_325 sX11_felon (ev_X11_felon t0 t1 G N T C E P S H0 H1 H2 H3 ta lf (nI f) _ hG) rfl rfl rfl ⟨_, _, rfl⟩ rfl rfl ?_
    rw [fel_at (k := 1) hf hG (by decide) (by decide)]
    refine go_i2l dX11_digestOfFelons_39 ?_
    refine go_ladd dX11_digestOfFelons_40 ?_
    refine go_lstore_n dX11_digestOfFelons_41 (by decide) ?_
    refine go_iincN (1) dX11_digestOfFelons_42 rfl (by decide) (by decide) ?_
    refine go_goto 20 dX11_digestOfFelons_45 (by decide) ?_
    refine go_iload dX11_digestOfFelons_20 rfl ?_
    refine go_iconst (4) dX11_digestOfFelons_22 (by decide) ?_
    refine go_icmp_gt 48 dX11_digestOfFelons_23 (by decide) (fun c_23 => absurd c_23 (by decide)) (fun _ => ?_)
    refine go_ldc2_w dX11_digestOfFelons_26 kX11_297 ?_
    refine go_lload_n dX11_digestOfFelons_29 rfl ?_
    refine go_lmul dX11_digestOfFelons_30 ?_
    refine go_aload_n dX11_digestOfFelons_31 rfl ?_
    refine go_iload dX11_digestOfFelons_32 rfl ?_
    refine go_iload dX11_digestOfFelons_34 rfl ?_
    refine go_callVsi (z := MX11_felon) dX11_digestOfFelons_36 lX11_325 sX11_felon (ev_X11_felon t0 t1 G N T C E P S H0 H1 H2 H3 ta lf (nI f) _ hG) rfl rfl rfl ⟨_, _, rfl⟩ rfl rfl ?_
    rw [fel_at (k := 2) hf hG (by decide) (by decide)]
    refine go_i2l dX11_digestOfFelons_39 ?_
    refine go_ladd dX11_digestOfFelons_40 ?_
    refine go_lstore_n dX11_digestOfFelons_41 (by decide) ?_
    refine go_iincN (1) dX11_digestOfFelons_42 rfl (by decide) (by decide) ?_
    refine go_goto 20 dX11_digestOfFelons_45 (by decide) ?_
    refine go_iload dX11_digestOfFelons_20 rfl ?_
    refine go_iconst (4) dX11_digestOfFelons_22 (by decide) ?_
    refine go_icmp_gt 48 dX11_digestOfFelons_23 (by decide) (fun c_23 => absurd c_23 (by decide)) (fun _ => ?_)
    refine go_ldc2_w dX11_digestOfFelons_26 kX11_297 ?_
    refine go_lload_n dX11_digestOfFelons_29 rfl ?_
    refine go_lmul dX11_digestOfFelons_30 ?_
    refine go_aload_n dX11_digestOfFelons_31 rfl ?_
    refine go_iload dX11_digestOfFelons_32 rfl ?_
    refine go_iload dX11_digestOfFelons_34 rfl ?_
    refine go_callVsi (z := MX11_felon) dX11_digestOfFelons_36 lX11_325 sX11_felon (ev_X11_felon t0 t1 G N T C E P S H0 H1 H2 H3 ta lf (nI f) _ hG) rfl rfl rfl ⟨_, _, rfl⟩ rfl rfl ?_
    rw [fel_at (k := 3) hf hG (by decide) (by decide)]
    refine go_i2l dX11_digestOfFelons_39 ?_
    refine go_ladd dX11_digestOfFelons_40 ?_
    refine go_lstore_n dX11_digestOfFelons_41 (by decide) ?_
    refine go_iincN (1) dX11_digestOfFelons_42 rfl (by decide) (by decide) ?_
    refine go_goto 20 dX11_digestOfFelons_45 (by decide) ?_
    refine go_iload dX11_digestOfFelons_20 rfl ?_
    refine go_iconst (4) dX11_digestOfFelons_22 (by decide) ?_
    refine go_icmp_gt 48 dX11_digestOfFelons_23 (by decide) (fun c_23 => absurd c_23 (by decide)) (fun _ => ?_)
    refine go_ldc2_w dX11_digestOfFelons_26 kX11_297 ?_
    refine go_lload_n dX11_digestOfFelons_29 rfl ?_
    refine go_lmul dX11_digestOfFelons_30 ?_
    refine go_aload_n dX11_digestOfFelons_31 rfl ?_
    refine go_iload dX11_digestOfFelons_32 rfl ?_
    refine go_iload dX11_digestOfFelons_34 rfl ?_
    refine go_callVsi (z := MX11_felon) dX11_digestOfFelons_36 lX11_325 sX11_felon (ev_X11_felon t0 t1 G N T C E P S H0 H1 H2 H3 ta lf (nI f) _ hG) rfl rfl rfl ⟨_, _, rfl⟩ rfl rfl ?_
    rw [fel_at (k := 4) hf hG (by decide) (by decide)]
    refine go_i2l dX11_digestOfFelons_39 ?_
    refine go_ladd dX11_digestOfFelons_40 ?_
    refine go_lstore_n dX11_digestOfFelons_41 (by decide) ?_
    refine go_iincN (1) dX11_digestOfFelons_42 rfl (by decide) (by decide) ?_
    refine go_goto 20 dX11_digestOfFelons_45 (by decide) ?_
    refine go_iload dX11_digestOfFelons_20 rfl ?_
    refine go_iconst (4) dX11_digestOfFelons_22 (by decide) ?_
    refine go_icmp_gt 48 dX11_digestOfFelons_23 (by decide) (fun _ => ?_) (fun c_23 => absurd (by decide) c_23)
    refine go_ldc2_w dX11_digestOfFelons_48 kX11_297 ?_
    refine go_lload_n dX11_digestOfFelons_51 rfl ?_
    refine go_lmul dX11_digestOfFelons_52 ?_
    refine go_aload_n dX11_digestOfFelons_53 rfl ?_
    refine go_iload dX11_digestOfFelons_54 rfl ?_
    refine go_callVsi (z := MX11_fate) dX11_digestOfFelons_56 lX11_328 sX11_fate (ev_X11_fate t0 t1 G N T C E P S H0 H1 H2 H3 ta lf (nI f)) rfl rfl rfl ⟨_, _, rfl⟩ rfl rfl ?_
    rw [fate_at hf hG, hC.ft f (by omega)]
    refine go_i2l dX11_digestOfFelons_59 ?_
    refine go_ladd dX11_digestOfFelons_60 ?_
    refine go_lstore_n dX11_digestOfFelons_61 (by decide) ?_
    refine go_ldc2_w dX11_digestOfFelons_62 kX11_297 ?_
    refine go_lload_n dX11_digestOfFelons_65 rfl ?_
    refine go_lmul dX11_digestOfFelons_66 ?_
    refine go_aload_n dX11_digestOfFelons_67 rfl ?_
    refine go_iload dX11_digestOfFelons_68 rfl ?_
    refine go_callVsi (z := MX11_chain) dX11_digestOfFelons_70 lX11_331 sX11_chain (ev_X11_chain t0 t1 G N T C E P S H0 H1 H2 H3 ta lf hG (nI f)) rfl rfl rfl ⟨_, _, rfl⟩ rfl rfl ?_
    rw [gang_at hf hG]
    refine go_i2l dX11_digestOfFelons_73 ?_
    refine go_ladd dX11_digestOfFelons_74 ?_
    refine go_lstore_n dX11_digestOfFelons_75 (by decide) ?_
    refine go_ldc2_w dX11_digestOfFelons_76 kX11_297 ?_
    refine go_lload_n dX11_digestOfFelons_79 rfl ?_
    refine go_lmul dX11_digestOfFelons_80 ?_
    refine go_aload_n dX11_digestOfFelons_81 rfl ?_
    refine go_iload dX11_digestOfFelons_82 rfl ?_
    refine go_callVs (z := MX11_kinds) dX11_digestOfFelons_84 lX11_334 sX11_kinds (ev_kinds1 t0 t1 G N T C E P S H0 H1 H2 H3 ta lf hG hN hS f hf) rfl rfl rfl ⟨_, _, rfl⟩ rfl rfl (fun v w1 h => by obtain ⟨-, D2, rfl⟩ := h; rfl) (fun v_84 w_84 h_84 => ?_)
    obtain ⟨rfl, D2, rfl⟩ := h_84
    refine go_i2l dX11_digestOfFelons_87 ?_
    refine go_ladd dX11_digestOfFelons_88 ?_
    refine go_lstore_n dX11_digestOfFelons_89 (by decide) ?_
    refine go_iincN (1) dX11_digestOfFelons_90 rfl (by decide) (by decide) ?_
    refine go_goto 5 dX11_digestOfFelons_93 (by decide) ?_
    rw [nI_1]
    exact ih (f + 1) D2 _ (by omega)
set_option maxRecDepth 100000 in
theorem ev_X11_digestOfNames (t0 t1 : TX) (G N : TG) (T : TT) (C D : TC) (P : TP) (S : TS) (H0 H1 H2 H3 : TH) (ta : Nat → Int32) (lf : Int32) (hG : G.1 ≤ 8) (hG2 : GOK G.1 G.2.2) (hN : NOK N) (hS : S.1 ≤ 8) (hT : T.1 ≤ 9 ∧ T.2.1 ≤ 8) (hC : CrsC G N T C) (h : Int64) : Ev MX11_digestOfNames [.ref 0, .long h] (cwd t0 t1 G N T C D P S H0 H1 H2 H3 ta lf) (Rj (cwd t0 t1 G N T C D P S H0 H1 H2 H3 ta lf) (dgN (aBeh G N T) (dgN (aNam G N T) h N.1) (N.1 + 1))) := by
  refine ev_of bX11_digestOfNames [some (.ref 0), some (.long h), none, none, none, none] (Nat.le_of_ble_eq_true rfl) rfl ?_
  have hN2 := hN.1
  refine go_lload_n dX11_digestOfNames_0 rfl ?_
  refine go_lstore_n dX11_digestOfNames_1 (by decide) ?_
  refine go_iconst (0) dX11_digestOfNames_2 (by decide) ?_
  refine go_istore dX11_digestOfNames_3 (by decide) ?_
  suffices loop : ∀ (d f : Nat), f + d = N.1 → Go X0 MX11_digestOfNames (Rj (cwd t0 t1 G N T C D P S H0 H1 H2 H3 ta lf) (dgN (aBeh G N T) (dgN (aNam G N T) h N.1) (N.1 + 1))) 44 0 0 5 [some (.ref 0), some (.long h), none, some (.long (dgN (aNam G N T) h f)), none, some (.int (nI f))] [] (cwd t0 t1 G N T C D P S H0 H1 H2 H3 ta lf) from loop N.1 0 (by omega)
  intro d
  induction d with
  | zero =>
    intro f hi
    rw [show f = N.1 by omega]
    refine go_iload dX11_digestOfNames_5 rfl ?_
    refine go_aload_n dX11_digestOfNames_7 rfl ?_
    refine go_getf fX11_31 dX11_digestOfNames_8 rfl rfl ?_
    refine go_getf fX11_134 dX11_digestOfNames_11 rfl rfl ?_
    refine go_icmp_ge 67 dX11_digestOfNames_14 (by decide) (fun _ => ?_) (fun c_14 => absurd (Int32.le_refl _) c_14)
    refine go_iconst (0) dX11_digestOfNames_67 (by decide) ?_
    refine go_istore dX11_digestOfNames_68 (by decide) ?_
    suffices loop2 : ∀ (d f : Nat), f + d = N.1 + 1 → Go X0 MX11_digestOfNames (Rj (cwd t0 t1 G N T C D P S H0 H1 H2 H3 ta lf) (dgN (aBeh G N T) (dgN (aNam G N T) h N.1) (N.1 + 1))) 44 0 0 70 [some (.ref 0), some (.long h), none, some (.long (dgN (aBeh G N T) (dgN (aNam G N T) h N.1) f)), none, some (.int (nI f))] [] (cwd t0 t1 G N T C D P S H0 H1 H2 H3 ta lf) from loop2 (N.1 + 1) 0 (by omega)
    clear hi
    intro d
    induction d with
    | zero =>
      intro f hi
      rw [show f = N.1 + 1 by omega]
      refine go_iload dX11_digestOfNames_70 rfl ?_
      refine go_aload_n dX11_digestOfNames_72 rfl ?_
      refine go_getf fX11_31 dX11_digestOfNames_73 rfl rfl ?_
      refine go_getf fX11_134 dX11_digestOfNames_76 rfl rfl ?_
      refine go_icmp_gt 146 dX11_digestOfNames_79 (by decide) (fun _ => ?_) (fun c_79 => absurd (nI_lt (by omega) (by omega)) c_79)
      refine go_lload_n dX11_digestOfNames_146 rfl ?_
      refine go_lreturn dX11_digestOfNames_147 rfl (Nat.le_of_ble_eq_true rfl) (Nat.le_of_ble_eq_true rfl) ?_
      exact ⟨rfl, rfl⟩
    | succ d ih =>
      intro f hi
      have hf : f ≤ N.1 := by omega
      refine go_iload dX11_digestOfNames_70 rfl ?_
      refine go_aload_n dX11_digestOfNames_72 rfl ?_
      refine go_getf fX11_31 dX11_digestOfNames_73 rfl rfl ?_
      refine go_getf fX11_134 dX11_digestOfNames_76 rfl rfl ?_
      refine go_icmp_gt 146 dX11_digestOfNames_79 (by decide) (fun c_79 => absurd c_79 (fun q => absurd ((nI_ltI (by omega) (by omega)).mp q) (by omega))) (fun _ => ?_)
      refine go_ldc2_w dX11_digestOfNames_82 kX11_297 ?_
      refine go_lload_n dX11_digestOfNames_85 rfl ?_
      refine go_lmul dX11_digestOfNames_86 ?_
      refine go_aload_n dX11_digestOfNames_87 rfl ?_
      refine go_iload dX11_digestOfNames_88 rfl ?_
      refine go_iconst (0) dX11_digestOfNames_90 (by decide) ?_
      refine go_callVsi (z := MX11_behind) dX11_digestOfNames_91 lX11_343 sX11_behind (ev_X11_behind t0 t1 G N T C D P S H0 H1 H2 H3 ta lf (nI f) _ hN.1) rfl rfl rfl ⟨_, _, rfl⟩ rfl rfl ?_
      rw [beh_at hf hN.1 (by decide), if_pos rfl, nI_clamp (by omega), hC.sg f hf]
      refine go_i2l dX11_digestOfNames_94 ?_
      refine go_ladd dX11_digestOfNames_95 ?_
      refine go_lstore_n dX11_digestOfNames_96 (by decide) ?_
      refine go_ldc2_w dX11_digestOfNames_97 kX11_297 ?_
      refine go_lload_n dX11_digestOfNames_100 rfl ?_
      refine go_lmul dX11_digestOfNames_101 ?_
      refine go_aload_n dX11_digestOfNames_102 rfl ?_
      refine go_iload dX11_digestOfNames_103 rfl ?_
      refine go_iconst (1) dX11_digestOfNames_105 (by decide) ?_
      refine go_callVsi (z := MX11_behind) dX11_digestOfNames_106 lX11_343 sX11_behind (ev_X11_behind t0 t1 G N T C D P S H0 H1 H2 H3 ta lf (nI f) _ hN.1) rfl rfl rfl ⟨_, _, rfl⟩ rfl rfl ?_
      rw [beh_at hf hN.1 (by decide), if_neg (by decide), nI_clamp (by omega), hC.wn f hf]
      refine go_i2l dX11_digestOfNames_109 ?_
      refine go_ladd dX11_digestOfNames_110 ?_
      refine go_lstore_n dX11_digestOfNames_111 (by decide) ?_
      refine go_ldc2_w dX11_digestOfNames_112 kX11_297 ?_
      refine go_lload_n dX11_digestOfNames_115 rfl ?_
      refine go_lmul dX11_digestOfNames_116 ?_
      refine go_aload_n dX11_digestOfNames_117 rfl ?_
      refine go_iload dX11_digestOfNames_118 rfl ?_
      refine go_iconst (0) dX11_digestOfNames_120 (by decide) ?_
      refine go_callVsj (z := MX11_alive) dX11_digestOfNames_121 lX11_346 sX11_alive (ev_X11_alive t0 t1 G N T C D P S H0 H1 H2 H3 ta lf (nI f) _ hN.1 (kC G N T) (aC G N T) (hC.nums hT.2)) rfl rfl rfl ⟨_, _, rfl⟩ rfl rfl ?_
      rw [aliv_at hf hN.1 (by decide)]
      refine go_ladd dX11_digestOfNames_124 ?_
      refine go_lstore_n dX11_digestOfNames_125 (by decide) ?_
      refine go_ldc2_w dX11_digestOfNames_126 kX11_297 ?_
      refine go_lload_n dX11_digestOfNames_129 rfl ?_
      refine go_lmul dX11_digestOfNames_130 ?_
      refine go_aload_n dX11_digestOfNames_131 rfl ?_
      refine go_iload dX11_digestOfNames_132 rfl ?_
      refine go_iconst (1) dX11_digestOfNames_134 (by decide) ?_
      refine go_callVsj (z := MX11_alive) dX11_digestOfNames_135 lX11_346 sX11_alive (ev_X11_alive t0 t1 G N T C D P S H0 H1 H2 H3 ta lf (nI f) _ hN.1 (kC G N T) (aC G N T) (hC.nums hT.2)) rfl rfl rfl ⟨_, _, rfl⟩ rfl rfl ?_
      rw [aliv_at hf hN.1 (by decide)]
      refine go_ladd dX11_digestOfNames_138 ?_
      refine go_lstore_n dX11_digestOfNames_139 (by decide) ?_
      refine go_iincN (1) dX11_digestOfNames_140 rfl (by decide) (by decide) ?_
      refine go_goto 70 dX11_digestOfNames_143 (by decide) ?_
      rw [nI_1]
      exact ih (f + 1) (by omega)
  | succ d ih =>
    intro f hi
    have hf : f < N.1 := by omega
    refine go_iload dX11_digestOfNames_5 rfl ?_
    refine go_aload_n dX11_digestOfNames_7 rfl ?_
    refine go_getf fX11_31 dX11_digestOfNames_8 rfl rfl ?_
    refine go_getf fX11_134 dX11_digestOfNames_11 rfl rfl ?_
    refine go_icmp_ge 67 dX11_digestOfNames_14 (by decide) (fun c_14 => absurd c_14 (nI_ge hf (by omega))) (fun _ => ?_)
    refine go_ldc2_w dX11_digestOfNames_17 kX11_297 ?_
    refine go_lload_n dX11_digestOfNames_20 rfl ?_
    refine go_lmul dX11_digestOfNames_21 ?_
    refine go_aload_n dX11_digestOfNames_22 rfl ?_
    refine go_iload dX11_digestOfNames_23 rfl ?_
    refine go_callVsi (z := MX11_name) dX11_digestOfNames_25 lX11_337 sX11_name (ev_X11_name t0 t1 G N T C D P S H0 H1 H2 H3 ta lf (nI f) hN.1) rfl rfl rfl ⟨_, _, rfl⟩ rfl rfl ?_
    rw [name_at hf hN.1]
    refine go_i2l dX11_digestOfNames_28 ?_
    refine go_ladd dX11_digestOfNames_29 ?_
    refine go_lstore_n dX11_digestOfNames_30 (by decide) ?_
    refine go_ldc2_w dX11_digestOfNames_31 kX11_297 ?_
    refine go_lload_n dX11_digestOfNames_34 rfl ?_
    refine go_lmul dX11_digestOfNames_35 ?_
    refine go_aload_n dX11_digestOfNames_36 rfl ?_
    refine go_iload dX11_digestOfNames_37 rfl ?_
    refine go_iconst (0) dX11_digestOfNames_39 (by decide) ?_
    refine go_callVsi (z := MX11_comes) dX11_digestOfNames_40 lX11_340 sX11_comes (ev_X11_comes t0 t1 G N T C D P S H0 H1 H2 H3 ta lf (nI f) _ hN.1) rfl rfl rfl ⟨_, _, rfl⟩ rfl rfl ?_
    rw [come_at hf hN.1 (by decide), if_pos rfl, hC.cm f hf]
    refine go_i2l dX11_digestOfNames_43 ?_
    refine go_ladd dX11_digestOfNames_44 ?_
    refine go_lstore_n dX11_digestOfNames_45 (by decide) ?_
    refine go_ldc2_w dX11_digestOfNames_46 kX11_297 ?_
    refine go_lload_n dX11_digestOfNames_49 rfl ?_
    refine go_lmul dX11_digestOfNames_50 ?_
    refine go_aload_n dX11_digestOfNames_51 rfl ?_
    refine go_iload dX11_digestOfNames_52 rfl ?_
    refine go_iconst (1) dX11_digestOfNames_54 (by decide) ?_
    refine go_callVsi (z := MX11_comes) dX11_digestOfNames_55 lX11_340 sX11_comes (ev_X11_comes t0 t1 G N T C D P S H0 H1 H2 H3 ta lf (nI f) _ hN.1) rfl rfl rfl ⟨_, _, rfl⟩ rfl rfl ?_
    rw [come_at hf hN.1 (by decide), if_neg (by decide), hC.sx f hf]
    refine go_i2l dX11_digestOfNames_58 ?_
    refine go_ladd dX11_digestOfNames_59 ?_
    refine go_lstore_n dX11_digestOfNames_60 (by decide) ?_
    refine go_iincN (1) dX11_digestOfNames_61 rfl (by decide) (by decide) ?_
    refine go_goto 5 dX11_digestOfNames_64 (by decide) ?_
    rw [nI_1]
    exact ih (f + 1) (by omega)
set_option maxRecDepth 100000 in
theorem ev_X11_digestOfPlans (t0 t1 : TX) (G N : TG) (T : TT) (C D : TC) (P : TP) (S : TS) (H0 H1 H2 H3 : TH) (ta : Nat → Int32) (lf : Int32) (hG : G.1 ≤ 8) (hG2 : GOK G.1 G.2.2) (hN : NOK N) (hS : S.1 ≤ 8) (hT : T.1 ≤ 9 ∧ T.2.1 ≤ 8) (hC : CrsC G N T C) (hP : PInv G T P) (h : Int64) : Ev MX11_digestOfPlans [.ref 0, .long h] (cwd t0 t1 G N T C D P S H0 H1 H2 H3 ta lf) (fun v w => ∃ (ln v0 : Nat) (row : Nat → Int32), PlanOK G.1 G.2.2 T.1 T.2.1 (nI T.2.2) ln row v0 ∧ ln ≤ 8 ∧ v0 ≤ 2 ^ 32 ∧ v = some (.long (dgs h (aPl G N T ln v0 row))) ∧ ∃ (D2 : TC) (P2 : TP), PInv G T P2 ∧ w = (cwd t0 t1 G N T C D2 P2 S H0 H1 H2 H3 ta lf)) := by
  refine ev_of bX11_digestOfPlans [some (.ref 0), some (.long h), none, none, none] (Nat.le_of_ble_eq_true rfl) rfl ?_
  refine go_ldc2_w dX11_digestOfPlans_0 kX11_297 ?_
  refine go_lload_n dX11_digestOfPlans_3 rfl ?_
  refine go_lmul dX11_digestOfPlans_4 ?_
  refine go_aload_n dX11_digestOfPlans_5 rfl ?_
  refine go_iconst (0) dX11_digestOfPlans_6 (by decide) ?_
  refine go_callVsj (z := MX11_lives) dX11_digestOfPlans_7 lX11_350 sX11_lives (ev_X11_lives t0 t1 G N T C D P S H0 H1 H2 H3 ta lf _ hN.1 hC.len (lC G N T) T.2.1 hC.goal hT.2 (hC.lives hT.2).1 (hC.lives hT.2).2) rfl rfl rfl ⟨_, _, rfl⟩ rfl rfl ?_
  rw [if_neg (by decide)]
  refine go_ladd dX11_digestOfPlans_10 ?_
  refine go_lstore_n dX11_digestOfPlans_11 (by decide) ?_
  refine go_ldc2_w dX11_digestOfPlans_12 kX11_297 ?_
  refine go_lload_n dX11_digestOfPlans_15 rfl ?_
  refine go_lmul dX11_digestOfPlans_16 ?_
  refine go_aload_n dX11_digestOfPlans_17 rfl ?_
  refine go_iconst (1) dX11_digestOfPlans_18 (by decide) ?_
  refine go_callVsj (z := MX11_lives) dX11_digestOfPlans_19 lX11_350 sX11_lives (ev_X11_lives t0 t1 G N T C D P S H0 H1 H2 H3 ta lf _ hN.1 hC.len (lC G N T) T.2.1 hC.goal hT.2 (hC.lives hT.2).1 (hC.lives hT.2).2) rfl rfl rfl ⟨_, _, rfl⟩ rfl rfl ?_
  rw [if_neg (by decide)]
  refine go_ladd dX11_digestOfPlans_22 ?_
  refine go_lstore_n dX11_digestOfPlans_23 (by decide) ?_
  refine go_ldc2_w dX11_digestOfPlans_24 kX11_297 ?_
  refine go_lload_n dX11_digestOfPlans_27 rfl ?_
  refine go_lmul dX11_digestOfPlans_28 ?_
  refine go_aload_n dX11_digestOfPlans_29 rfl ?_
  refine go_iconst (0) dX11_digestOfPlans_30 (by decide) ?_
  refine go_callVsj (z := MX11_harm) dX11_digestOfPlans_31 lX11_353 sX11_harm (ev_X11_harm t0 t1 G N T C D P S H0 H1 H2 H3 ta lf _ (harmC G N T) (hC.harm hT.2 hN.1).1 (hC.harm hT.2 hN.1).2) rfl rfl rfl ⟨_, _, rfl⟩ rfl rfl ?_
  rw [if_neg (by decide)]
  refine go_ladd dX11_digestOfPlans_34 ?_
  refine go_lstore_n dX11_digestOfPlans_35 (by decide) ?_
  refine go_ldc2_w dX11_digestOfPlans_36 kX11_297 ?_
  refine go_lload_n dX11_digestOfPlans_39 rfl ?_
  refine go_lmul dX11_digestOfPlans_40 ?_
  refine go_aload_n dX11_digestOfPlans_41 rfl ?_
  refine go_iconst (1) dX11_digestOfPlans_42 (by decide) ?_
  refine go_callVsj (z := MX11_harm) dX11_digestOfPlans_43 lX11_353 sX11_harm (ev_X11_harm t0 t1 G N T C D P S H0 H1 H2 H3 ta lf _ (harmC G N T) (hC.harm hT.2 hN.1).1 (hC.harm hT.2 hN.1).2) rfl rfl rfl ⟨_, _, rfl⟩ rfl rfl ?_
  rw [if_neg (by decide)]
  refine go_ladd dX11_digestOfPlans_46 ?_
  refine go_lstore_n dX11_digestOfPlans_47 (by decide) ?_
  refine go_ldc2_w dX11_digestOfPlans_48 kX11_297 ?_
  refine go_lload_n dX11_digestOfPlans_51 rfl ?_
  refine go_lmul dX11_digestOfPlans_52 ?_
  refine go_aload_n dX11_digestOfPlans_53 rfl ?_
  refine go_callVsi (z := MX11_worst) dX11_digestOfPlans_54 lX11_356 sX11_worst (ev_X11_worst t0 t1 G N T C D P S H0 H1 H2 H3 ta lf hC.len hN.1) rfl rfl rfl ⟨_, _, rfl⟩ rfl rfl ?_
  rw [fw_congr hC.sx]
  refine go_i2l dX11_digestOfPlans_57 ?_
  refine go_ladd dX11_digestOfPlans_58 ?_
  refine go_lstore_n dX11_digestOfPlans_59 (by decide) ?_
  refine go_ldc2_w dX11_digestOfPlans_60 kX11_297 ?_
  refine go_lload_n dX11_digestOfPlans_63 rfl ?_
  refine go_lmul dX11_digestOfPlans_64 ?_
  refine go_aload_n dX11_digestOfPlans_65 rfl ?_
  refine go_iconst (-1) dX11_digestOfPlans_66 (by decide) ?_
  refine go_callVs (z := MX11_order) dX11_digestOfPlans_67 lX11_359 sX11_order (ev_X11_order t0 t1 G N T C D P S H0 H1 H2 H3 ta lf hG hG2 hT hP _) rfl rfl rfl ⟨_, _, rfl⟩ rfl rfl (fun v w1 h => by rcases h with ⟨-, -, rfl⟩ | ⟨-, P2, ln, v0, rfl, -⟩ <;> rfl) (fun v_67 w_67 h_67 => ?_)
  obtain ⟨P1, l_1, u_1, rfl, m1_1, m2_1, m3_1, m4_1, m5_1, m6_1, rfl⟩ := (h_67.resolve_left (fun q => absurd q.1 (by decide))).2
  refine go_i2l dX11_digestOfPlans_70 ?_
  refine go_ladd dX11_digestOfPlans_71 ?_
  refine go_lstore_n dX11_digestOfPlans_72 (by decide) ?_
  refine go_ldc2_w dX11_digestOfPlans_73 kX11_297 ?_
  refine go_lload_n dX11_digestOfPlans_76 rfl ?_
  refine go_lmul dX11_digestOfPlans_77 ?_
  refine go_aload_n dX11_digestOfPlans_78 rfl ?_
  refine go_iconst (0) dX11_digestOfPlans_79 (by decide) ?_
  refine go_callVs (z := MX11_order) dX11_digestOfPlans_80 lX11_359 sX11_order (ev_X11_order t0 t1 G N T C D P1 S H0 H1 H2 H3 ta lf hG hG2 hT (Or.inr ⟨m1_1, l_1, u_1, m2_1, m3_1, m4_1, m5_1, m6_1⟩) _) rfl rfl rfl ⟨_, _, rfl⟩ rfl rfl (fun v w1 h => by rcases h with ⟨-, -, rfl⟩ | ⟨-, P2, ln, v0, rfl, -⟩ <;> rfl) (fun v_80 w_80 h_80 => ?_)
  obtain ⟨P2, l_2, u_2, rfl, m1_2, m2_2, m3_2, m4_2, m5_2, m6_2, rfl⟩ := (h_80.resolve_left (fun q => absurd q.1 (by decide))).2
  obtain ⟨q1_2, q2_2, q3_2⟩ := plan_one hG2 hG hT.1 m4_1 m4_2
  rw [← ord_one m6_1 (by decide) q1_2 q3_2]
  refine go_i2l dX11_digestOfPlans_83 ?_
  refine go_ladd dX11_digestOfPlans_84 ?_
  refine go_lstore_n dX11_digestOfPlans_85 (by decide) ?_
  refine go_ldc2_w dX11_digestOfPlans_86 kX11_297 ?_
  refine go_lload_n dX11_digestOfPlans_89 rfl ?_
  refine go_lmul dX11_digestOfPlans_90 ?_
  refine go_aload_n dX11_digestOfPlans_91 rfl ?_
  refine go_iconst (0) dX11_digestOfPlans_92 (by decide) ?_
  refine go_callVs (z := MX11_best) dX11_digestOfPlans_93 lX11_362 sX11_best (ev_X11_best t0 t1 G N T C D P2 S H0 H1 H2 H3 ta lf hG hG2 hT (Or.inr ⟨m1_2, l_2, u_2, m2_2, m3_2, m4_2, m5_2, m6_2⟩) _) rfl rfl rfl ⟨_, _, rfl⟩ rfl rfl (fun v w1 h => by rcases h with ⟨-, -, rfl⟩ | ⟨-, P2, ln, v0, rfl, -⟩ <;> rfl) (fun v_93 w_93 h_93 => ?_)
  obtain ⟨P3, l_3, u_3, rfl, m1_3, m2_3, m3_3, m4_3, m5_3, m6_3, rfl⟩ := (h_93.resolve_left (fun q => absurd q.1 (by decide))).2
  obtain ⟨q1_3, q2_3, q3_3⟩ := plan_one hG2 hG hT.1 m4_1 m4_3
  rw [← q2_3]
  refine go_ladd dX11_digestOfPlans_96 ?_
  refine go_lstore_n dX11_digestOfPlans_97 (by decide) ?_
  refine go_ldc2_w dX11_digestOfPlans_98 kX11_297 ?_
  refine go_lload_n dX11_digestOfPlans_101 rfl ?_
  refine go_lmul dX11_digestOfPlans_102 ?_
  refine go_aload_n dX11_digestOfPlans_103 rfl ?_
  refine go_iconst (1) dX11_digestOfPlans_104 (by decide) ?_
  refine go_callVs (z := MX11_best) dX11_digestOfPlans_105 lX11_362 sX11_best (ev_X11_best t0 t1 G N T C D P3 S H0 H1 H2 H3 ta lf hG hG2 hT (Or.inr ⟨m1_3, l_3, u_3, m2_3, m3_3, m4_3, m5_3, m6_3⟩) _) rfl rfl rfl ⟨_, _, rfl⟩ rfl rfl (fun v w1 h => by rcases h with ⟨-, -, rfl⟩ | ⟨-, P2, ln, v0, rfl, -⟩ <;> rfl) (fun v_105 w_105 h_105 => ?_)
  obtain ⟨P4, l_4, u_4, rfl, m1_4, m2_4, m3_4, m4_4, m5_4, m6_4, rfl⟩ := (h_105.resolve_left (fun q => absurd q.1 (by decide))).2
  obtain ⟨q1_4, q2_4, q3_4⟩ := plan_one hG2 hG hT.1 m4_1 m4_4
  rw [← q2_4]
  refine go_ladd dX11_digestOfPlans_108 ?_
  refine go_lstore_n dX11_digestOfPlans_109 (by decide) ?_
  refine go_ldc2_w dX11_digestOfPlans_110 kX11_297 ?_
  refine go_lload_n dX11_digestOfPlans_113 rfl ?_
  refine go_lmul dX11_digestOfPlans_114 ?_
  refine go_aload_n dX11_digestOfPlans_115 rfl ?_
  refine go_callVs (z := MX11_price) dX11_digestOfPlans_116 lX11_365 sX11_price (ev_X11_price t0 t1 G N T C D P4 S H0 H1 H2 H3 ta lf hG hN) rfl rfl rfl ⟨_, _, rfl⟩ rfl rfl (fun v w1 h => by obtain ⟨-, D2, rfl⟩ := h; rfl) (fun v_116 w_116 h_116 => ?_)
  obtain ⟨rfl, D1, rfl⟩ := h_116
  refine go_i2l dX11_digestOfPlans_119 ?_
  refine go_ladd dX11_digestOfPlans_120 ?_
  refine go_lstore_n dX11_digestOfPlans_121 (by decide) ?_
  refine go_ldc2_w dX11_digestOfPlans_122 kX11_297 ?_
  refine go_lload_n dX11_digestOfPlans_125 rfl ?_
  refine go_lmul dX11_digestOfPlans_126 ?_
  refine go_aload_n dX11_digestOfPlans_127 rfl ?_
  refine go_iconst (4) dX11_digestOfPlans_128 (by decide) ?_
  refine go_callVs (z := MX11_rule) dX11_digestOfPlans_129 lX11_368 sX11_rule (ev_X11_rule t0 t1 G N T C D1 P4 S H0 H1 H2 H3 ta lf hG hN _) rfl rfl rfl ⟨_, _, rfl⟩ rfl rfl (fun v w1 h => by rcases h with ⟨-, -, rfl⟩ | ⟨-, -, D2, rfl⟩ <;> rfl) (fun v_129 w_129 h_129 => ?_)
  obtain ⟨rfl, D2, rfl⟩ := (h_129.resolve_left (fun q => absurd q.1 (by decide))).2
  refine go_i2l dX11_digestOfPlans_132 ?_
  refine go_ladd dX11_digestOfPlans_133 ?_
  refine go_lstore_n dX11_digestOfPlans_134 (by decide) ?_
  refine go_ldc2_w dX11_digestOfPlans_135 kX11_297 ?_
  refine go_lload_n dX11_digestOfPlans_138 rfl ?_
  refine go_lmul dX11_digestOfPlans_139 ?_
  refine go_aload_n dX11_digestOfPlans_140 rfl ?_
  refine go_bipush (9) dX11_digestOfPlans_141 (by decide) ?_
  refine go_callVs (z := MX11_rule) dX11_digestOfPlans_143 lX11_368 sX11_rule (ev_X11_rule t0 t1 G N T C D2 P4 S H0 H1 H2 H3 ta lf hG hN _) rfl rfl rfl ⟨_, _, rfl⟩ rfl rfl (fun v w1 h => by rcases h with ⟨-, -, rfl⟩ | ⟨-, -, D2, rfl⟩ <;> rfl) (fun v_143 w_143 h_143 => ?_)
  obtain ⟨rfl, D3, rfl⟩ := (h_143.resolve_left (fun q => absurd q.1 (by decide))).2
  refine go_i2l dX11_digestOfPlans_146 ?_
  refine go_ladd dX11_digestOfPlans_147 ?_
  refine go_lreturn dX11_digestOfPlans_148 rfl (Nat.le_of_ble_eq_true rfl) (Nat.le_of_ble_eq_true rfl) ?_
  exact ⟨l_1, u_1, _, m4_1, m6_1, m5_1, rfl, D3, P4, Or.inr ⟨m1_4, l_4, u_4, m2_4, m3_4, m4_4, m5_4, m6_4⟩, rfl⟩
set_option maxRecDepth 100000 in
theorem ev_X11_digest (t0 t1 : TX) (G N : TG) (T : TT) (C D : TC) (P : TP) (S : TS) (H0 H1 H2 H3 : TH) (ta : Nat → Int32) (lf : Int32) (hG : G.1 ≤ 8) (hG2 : GOK G.1 G.2.2) (hN : NOK N) (hS : S.1 ≤ 8) (hT : T.1 ≤ 9 ∧ T.2.1 ≤ 8) (hC : CrsC G N T C) (hP : PInv G T P) : Ev MX11_digest [.ref 0] (cwd t0 t1 G N T C D P S H0 H1 H2 H3 ta lf) (fun v w => ∃ (ln v0 : Nat) (row : Nat → Int32), PlanOK G.1 G.2.2 T.1 T.2.1 (nI T.2.2) ln row v0 ∧ ln ≤ 8 ∧ v0 ≤ 2 ^ 32 ∧ v = some (.long (dgst t0 t1 G N T S lf ln v0 row)) ∧ ∃ (D2 : TC) (P2 : TP) (ta2 : Nat → Int32), PInv G T P2 ∧ w = (cwd t0 t1 G N T C D2 P2 S H0 H1 H2 H3 ta2 lf)) := by
  refine ev_of bX11_digest [some (.ref 0), none, none, none] (Nat.le_of_ble_eq_true rfl) rfl ?_
  refine go_ldc2_w dX11_digest_0 kX11_295 ?_
  refine go_lstore_n dX11_digest_3 (by decide) ?_
  refine go_iconst (0) dX11_digest_4 (by decide) ?_
  refine go_istore_n dX11_digest_5 (by decide) ?_
  suffices loop : ∀ (d k : Nat), k + d = 8 → Go X0 MX11_digest (fun v w => ∃ (ln v0 : Nat) (row : Nat → Int32), PlanOK G.1 G.2.2 T.1 T.2.1 (nI T.2.2) ln row v0 ∧ ln ≤ 8 ∧ v0 ≤ 2 ^ 32 ∧ v = some (.long (dgst t0 t1 G N T S lf ln v0 row)) ∧ ∃ (D2 : TC) (P2 : TP) (ta2 : Nat → Int32), PInv G T P2 ∧ w = (cwd t0 t1 G N T C D2 P2 S H0 H1 H2 H3 ta2 lf)) 44 0 0 6 [some (.ref 0), some (.long (dgN (fun j => [(cntV t0 t1 G N (cC G N T) S lf j).toInt64]) 17 k)), none, some (.int (nI k))] [] (cwd t0 t1 G N T C D P S H0 H1 H2 H3 ta lf) from loop 8 0 (by omega)
  intro d
  induction d with
  | zero =>
    intro k hi
    obtain rfl : k = 8 := by omega
    refine go_iload_n dX11_digest_6 rfl ?_
    refine go_bipush (7) dX11_digest_7 (by decide) ?_
    refine go_icmp_gt 31 dX11_digest_9 (by decide) (fun _ => ?_) (fun c_9 => absurd (by decide) c_9)
    refine go_ldc2_w dX11_digest_31 kX11_297 ?_
    refine go_lload_n dX11_digest_34 rfl ?_
    refine go_lmul dX11_digest_35 ?_
    refine go_aload_n dX11_digest_36 rfl ?_
    refine go_iconst (0) dX11_digest_37 (by decide) ?_
    refine go_callVsi (z := MX11_fault) dX11_digest_38 lX11_302 sX11_fault (ev_X11_fault t0 t1 G N T C D P S H0 H1 H2 H3 ta lf _) rfl rfl rfl ⟨_, _, rfl⟩ rfl rfl ?_
    rw [if_pos rfl]
    refine go_i2l dX11_digest_41 ?_
    refine go_ladd dX11_digest_42 ?_
    refine go_lstore_n dX11_digest_43 (by decide) ?_
    refine go_ldc2_w dX11_digest_44 kX11_297 ?_
    refine go_lload_n dX11_digest_47 rfl ?_
    refine go_lmul dX11_digest_48 ?_
    refine go_aload_n dX11_digest_49 rfl ?_
    refine go_iconst (1) dX11_digest_50 (by decide) ?_
    refine go_callVsi (z := MX11_fault) dX11_digest_51 lX11_302 sX11_fault (ev_X11_fault t0 t1 G N T C D P S H0 H1 H2 H3 ta lf _) rfl rfl rfl ⟨_, _, rfl⟩ rfl rfl ?_
    rw [if_neg (by decide), if_pos rfl]
    refine go_i2l dX11_digest_54 ?_
    refine go_ladd dX11_digest_55 ?_
    refine go_lstore_n dX11_digest_56 (by decide) ?_
    refine go_aload_n dX11_digest_57 rfl ?_
    refine go_aload_n dX11_digest_58 rfl ?_
    refine go_aload_n dX11_digest_59 rfl ?_
    refine go_lload_n dX11_digest_60 rfl ?_
    refine go_callVs (z := MX11_digestOfFelons) dX11_digest_61 lX11_305 sX11_digestOfFelons (ev_X11_digestOfFelons t0 t1 G N T C D P S H0 H1 H2 H3 ta lf hG hG2 hN hS hT hC _) rfl rfl rfl ⟨_, _, rfl⟩ rfl rfl (fun v w1 h => by obtain ⟨-, D2, rfl⟩ := h; rfl) (fun v_61 w_61 h_61 => ?_)
    obtain ⟨rfl, D2, rfl⟩ := h_61
    refine go_callVsj (z := MX11_digestOfNames) dX11_digest_64 lX11_309 sX11_digestOfNames (ev_X11_digestOfNames t0 t1 G N T C D2 P S H0 H1 H2 H3 ta lf hG hG2 hN hS hT hC _) rfl rfl rfl ⟨_, _, rfl⟩ rfl rfl ?_
    refine go_callVs (z := MX11_digestOfPlans) dX11_digest_67 lX11_312 sX11_digestOfPlans (ev_X11_digestOfPlans t0 t1 G N T C D2 P S H0 H1 H2 H3 ta lf hG hG2 hN hS hT hC hP _) rfl rfl rfl ⟨_, _, rfl⟩ rfl rfl (fun v w1 h => by obtain ⟨ln, v0, row, -, -, -, -, D3, P2, -, rfl⟩ := h; rfl) (fun v_67 w_67 h_67 => ?_)
    obtain ⟨ln, v0, row, p1, p2, p3, rfl, D3, P2, p4, rfl⟩ := h_67
    refine go_lstore_n dX11_digest_70 (by decide) ?_
    refine go_ldc2_w dX11_digest_71 kX11_297 ?_
    refine go_lload_n dX11_digest_74 rfl ?_
    refine go_lmul dX11_digest_75 ?_
    refine go_aload_n dX11_digest_76 rfl ?_
    refine go_callVs (z := MX11_bribes) dX11_digest_77 lX11_315 sX11_bribes (ev_X11_bribes t0 t1 G N T C D3 P2 S H0 H1 H2 H3 ta lf hG hN hS) rfl rfl rfl ⟨_, _, rfl⟩ rfl rfl (fun v w1 h => by obtain ⟨-, D2, rfl⟩ := h; rfl) (fun v_77 w_77 h_77 => ?_)
    obtain ⟨rfl, D5, rfl⟩ := h_77
    refine go_i2l dX11_digest_80 ?_
    refine go_ladd dX11_digest_81 ?_
    refine go_lstore_n dX11_digest_82 (by decide) ?_
    refine go_ldc2_w dX11_digest_83 kX11_297 ?_
    refine go_lload_n dX11_digest_86 rfl ?_
    refine go_lmul dX11_digest_87 ?_
    refine go_aload_n dX11_digest_88 rfl ?_
    refine go_callVs (z := MX11_ask) dX11_digest_89 lX11_318 sX11_ask (ev_X11_ask t0 t1 G N T C D5 P2 S H0 H1 H2 H3 ta lf hG hN hS) rfl rfl rfl ⟨_, _, rfl⟩ rfl rfl (fun v w1 h => by obtain ⟨-, D2, ta2, rfl⟩ := h; rfl) (fun v_89 w_89 h_89 => ?_)
    obtain ⟨rfl, D4, ta2, rfl⟩ := h_89
    refine go_i2l dX11_digest_92 ?_
    refine go_ladd dX11_digest_93 ?_
    refine go_lstore_n dX11_digest_94 (by decide) ?_
    refine go_ldc2_w dX11_digest_95 kX11_297 ?_
    refine go_lload_n dX11_digest_98 rfl ?_
    refine go_lmul dX11_digest_99 ?_
    refine go_aload_n dX11_digest_100 rfl ?_
    refine go_bipush (7) dX11_digest_101 (by decide) ?_
    refine go_bipush (30) dX11_digest_103 (by decide) ?_
    refine go_iconst (0) dX11_digest_105 (by decide) ?_
    refine go_callVs (z := MX11_gaols) dX11_digest_106 lX11_321 sX11_gaols (ev_X11_gaols t0 t1 G N T C D4 P2 S H0 H1 H2 H3 ta2 lf hN.1 hC.len _ _ _) rfl rfl rfl ⟨_, _, rfl⟩ rfl rfl (fun v w1 h => by rcases h with ⟨-, -, rfl⟩ | ⟨-, -, rfl⟩ <;> rfl) (fun v_106 w_106 h_106 => ?_)
    obtain ⟨rfl, rfl⟩ := (h_106.resolve_left (fun q => absurd q.1 (by decide))).2
    rw [if_pos rfl, hC.gal]
    refine go_i2l dX11_digest_109 ?_
    refine go_ladd dX11_digest_110 ?_
    refine go_lstore_n dX11_digest_111 (by decide) ?_
    refine go_ldc2_w dX11_digest_112 kX11_297 ?_
    refine go_lload_n dX11_digest_115 rfl ?_
    refine go_lmul dX11_digest_116 ?_
    refine go_aload_n dX11_digest_117 rfl ?_
    refine go_bipush (7) dX11_digest_118 (by decide) ?_
    refine go_bipush (30) dX11_digest_120 (by decide) ?_
    refine go_iconst (1) dX11_digest_122 (by decide) ?_
    refine go_callVs (z := MX11_gaols) dX11_digest_123 lX11_321 sX11_gaols (ev_X11_gaols t0 t1 G N T C D4 P2 S H0 H1 H2 H3 ta2 lf hN.1 hC.len _ _ _) rfl rfl rfl ⟨_, _, rfl⟩ rfl rfl (fun v w1 h => by rcases h with ⟨-, -, rfl⟩ | ⟨-, -, rfl⟩ <;> rfl) (fun v_123 w_123 h_123 => ?_)
    obtain ⟨rfl, rfl⟩ := (h_123.resolve_left (fun q => absurd q.1 (by decide))).2
    rw [if_neg (by decide), hC.gal]
    refine go_i2l dX11_digest_126 ?_
    refine go_ladd dX11_digest_127 ?_
    refine go_lreturn dX11_digest_128 rfl (Nat.le_of_ble_eq_true rfl) (Nat.le_of_ble_eq_true rfl) ?_
    exact ⟨ln, v0, row, p1, p2, p3, rfl, D4, P2, ta2, p4, rfl⟩
  | succ d ih =>
    intro k hi
    refine go_iload_n dX11_digest_6 rfl ?_
    refine go_bipush (7) dX11_digest_7 (by decide) ?_
    refine go_icmp_gt 31 dX11_digest_9 (by decide) (fun c_9 => absurd c_9 (fun q => absurd ((nI_ltI (a := 7) (by decide) (by omega)).mp q) (by omega))) (fun _ => ?_)
    refine go_ldc2_w dX11_digest_12 kX11_297 ?_
    refine go_lload_n dX11_digest_15 rfl ?_
    refine go_lmul dX11_digest_16 ?_
    refine go_aload_n dX11_digest_17 rfl ?_
    refine go_iload_n dX11_digest_18 rfl ?_
    refine go_callVsi (z := MX11_count) dX11_digest_19 lX11_299 sX11_count (ev_X11_count t0 t1 G N T C D P S H0 H1 H2 H3 ta lf _ hN.1 hG hC.len) rfl rfl rfl ⟨_, _, rfl⟩ rfl rfl ?_
    rw [cnt_at (by omega), hC.cnt hG]
    refine go_i2l dX11_digest_22 ?_
    refine go_ladd dX11_digest_23 ?_
    refine go_lstore_n dX11_digest_24 (by decide) ?_
    refine go_iincN (1) dX11_digest_25 rfl (by decide) (by decide) ?_
    refine go_goto 6 dX11_digest_28 (by decide) ?_
    rw [nI_1]
    exact ih (k + 1) (by omega)
