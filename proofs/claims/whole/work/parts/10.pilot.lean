theorem go_iincN {X : (Nat → Nat) → State → (Nat → Prop) → Prop} {M : MD} {Q : Option Value → List AE → Prop} {n0 cn sn pc : Nat} {L : List (Option Value)} {st : List Value} {w : List AE} {i : Nat} {n : Int} {x : Int32} (y : Int32) (hd : decode M.2.1 pc = .ok (.iinc i n, 3)) (hx : L[i]? = some (some (.int x))) (hv : Int32.ofInt n = y) (hn : i < M.2.2.1) (k : Go X M Q n0 cn sn (pc + 3) (s1 i (.int (x + y)) 0 L) st w) : Go X M Q n0 cn sn pc L st w := go_iinc (x + y) hd hx (by rw [hv]) hn k
theorem vin_of {i s : Int32} {n : Nat} (h0 : ¬ i < 0) (h1 : ¬ s ≤ i) (hs : s.toInt ≤ n) : vp_in i n := by
  rw [vp_in_iff]
  rw [Int32.lt_iff_toInt_lt] at h0
  rw [Int32.le_iff_toInt_le] at h1
  have : (0 : Int32).toInt = 0 := rfl
  omega
set_option maxRecDepth 100000 in
theorem ev_X4_whoAt (sz fp i : Int32) (f : Nat → Int32) (hs : sz.toInt ≤ (12 : Nat)) : Ev MX4_whoAt [.ref 0, .int i] [zO 3 [.ref 1, .int sz, .int fp], zI 12 f] (Ri [zO 3 [.ref 1, .int sz, .int fp], zI 12 f] (if i < 0 ∨ sz ≤ i then -1 else f i.toNatClampNeg)) := by
  refine ev_of bX4_whoAt [some (.ref 0), some (.int i)] (Nat.le_of_ble_eq_true rfl) rfl ?_
  refine go_iload_n dX4_whoAt_0 rfl ?_
  refine go_if_lt 21 dX4_whoAt_1 (by decide) (fun c_1 => ?_) (fun c_1 => ?_)
  · refine go_iconst (-1) dX4_whoAt_21 (by decide) ?_
    refine go_ireturn dX4_whoAt_22 rfl rfl (Nat.le_of_ble_eq_true rfl) (Nat.le_of_ble_eq_true rfl) ?_
    exact ⟨by simp [*], rfl⟩
  · refine go_iload_n dX4_whoAt_4 rfl ?_
    refine go_aload_n dX4_whoAt_5 rfl ?_
    refine go_getf fX4_30 dX4_whoAt_6 rfl rfl ?_
    refine go_icmp_ge 21 dX4_whoAt_9 (by decide) (fun c_9 => ?_) (fun c_9 => ?_)
    · refine go_iconst (-1) dX4_whoAt_21 (by decide) ?_
      refine go_ireturn dX4_whoAt_22 rfl rfl (Nat.le_of_ble_eq_true rfl) (Nat.le_of_ble_eq_true rfl) ?_
      exact ⟨by simp [*], rfl⟩
    · refine go_aload_n dX4_whoAt_12 rfl ?_
      refine go_getf fX4_9 dX4_whoAt_13 rfl rfl ?_
      refine go_iload_n dX4_whoAt_16 rfl ?_
      refine go_iald dX4_whoAt_17 rfl (vin_of c_1 c_9 hs) ?_
      refine go_goto 22 dX4_whoAt_18 (by decide) ?_
      refine go_ireturn dX4_whoAt_22 rfl rfl (Nat.le_of_ble_eq_true rfl) (Nat.le_of_ble_eq_true rfl) ?_
      exact ⟨by simp [*], rfl⟩
set_option maxRecDepth 100000 in
theorem ev_X10_byteAt (n : Nat) (sz i : Int32) (f : Nat → Int32) (hs : sz.toInt ≤ n) : Ev MX10_byteAt [.ref 0, .int i] [zO 8 [.ref 1, .int sz], zI n f] (Ri [zO 8 [.ref 1, .int sz], zI n f] (if i < 0 ∨ sz ≤ i then -1 else f i.toNatClampNeg)) := by
  refine ev_of bX10_byteAt [some (.ref 0), some (.int i)] (Nat.le_of_ble_eq_true rfl) rfl ?_
  refine go_iload_n dX10_byteAt_0 rfl ?_
  refine go_if_lt 21 dX10_byteAt_1 (by decide) (fun c_1 => ?_) (fun c_1 => ?_)
  · refine go_iconst (-1) dX10_byteAt_21 (by decide) ?_
    refine go_ireturn dX10_byteAt_22 rfl rfl (Nat.le_of_ble_eq_true rfl) (Nat.le_of_ble_eq_true rfl) ?_
    exact ⟨by simp [*], rfl⟩
  · refine go_iload_n dX10_byteAt_4 rfl ?_
    refine go_aload_n dX10_byteAt_5 rfl ?_
    refine go_getf fX10_21 dX10_byteAt_6 rfl rfl ?_
    refine go_icmp_ge 21 dX10_byteAt_9 (by decide) (fun c_9 => ?_) (fun c_9 => ?_)
    · refine go_iconst (-1) dX10_byteAt_21 (by decide) ?_
      refine go_ireturn dX10_byteAt_22 rfl rfl (Nat.le_of_ble_eq_true rfl) (Nat.le_of_ble_eq_true rfl) ?_
      exact ⟨by simp [*], rfl⟩
    · refine go_aload_n dX10_byteAt_12 rfl ?_
      refine go_getf fX10_15 dX10_byteAt_13 rfl rfl ?_
      refine go_iload_n dX10_byteAt_16 rfl ?_
      refine go_iald dX10_byteAt_17 rfl (vin_of c_1 c_9 hs) ?_
      refine go_goto 22 dX10_byteAt_18 (by decide) ?_
      refine go_ireturn dX10_byteAt_22 rfl rfl (Nat.le_of_ble_eq_true rfl) (Nat.le_of_ble_eq_true rfl) ?_
      exact ⟨by simp [*], rfl⟩
set_option maxRecDepth 100000 in
theorem ev_X2_part (sz fp i k : Int32) (f : Nat → Int32) : Ev MX2_part [.ref 0, .int i, .int k] [zO 1 [.ref 1, .int sz, .int fp], zI 40 f] (Ri [zO 1 [.ref 1, .int sz, .int fp], zI 40 f] (if i * 5 + k < 0 ∨ 40 ≤ i * 5 + k then -1 else f (i * 5 + k).toNatClampNeg)) := by
  refine ev_of bX2_part [some (.ref 0), some (.int i), some (.int k), none] (Nat.le_of_ble_eq_true rfl) rfl ?_
  refine go_iload_n dX2_part_0 rfl ?_
  refine go_iconst (5) dX2_part_1 (by decide) ?_
  refine go_imul dX2_part_2 ?_
  refine go_iload_n dX2_part_3 rfl ?_
  refine go_iadd dX2_part_4 ?_
  refine go_istore_n dX2_part_5 (by decide) ?_
  refine go_iload_n dX2_part_6 rfl ?_
  refine go_if_lt 28 dX2_part_7 (by decide) (fun c_7 => ?_) (fun c_7 => ?_)
  · refine go_iconst (-1) dX2_part_28 (by decide) ?_
    refine go_ireturn dX2_part_29 rfl rfl (Nat.le_of_ble_eq_true rfl) (Nat.le_of_ble_eq_true rfl) ?_
    exact ⟨by simp [*], rfl⟩
  · refine go_iload_n dX2_part_10 rfl ?_
    refine go_aload_n dX2_part_11 rfl ?_
    refine go_getf fX2_9 dX2_part_12 rfl rfl ?_
    refine go_alen _ dX2_part_15 rfl rfl ?_
    refine go_icmp_ge 28 dX2_part_16 (by decide) (fun c_16 => ?_) (fun c_16 => ?_)
    · refine go_iconst (-1) dX2_part_28 (by decide) ?_
      refine go_ireturn dX2_part_29 rfl rfl (Nat.le_of_ble_eq_true rfl) (Nat.le_of_ble_eq_true rfl) ?_
      exact ⟨by simp [*], rfl⟩
    · refine go_aload_n dX2_part_19 rfl ?_
      refine go_getf fX2_9 dX2_part_20 rfl rfl ?_
      refine go_iload_n dX2_part_23 rfl ?_
      refine go_iald dX2_part_24 rfl (vin_of c_7 c_16 (by decide)) ?_
      refine go_goto 29 dX2_part_25 (by decide) ?_
      refine go_ireturn dX2_part_29 rfl rfl (Nat.le_of_ble_eq_true rfl) (Nat.le_of_ble_eq_true rfl) ?_
      exact ⟨by simp [*], rfl⟩
