/-! the reference: what is asked of people and pillows; what is done -/
theorem tb_bI (x : Int32) (k : Nat) : tb x k = bI (¬ tb x k = 0) := by
  rcases tb01 x k with h | h
  · rw [bI_f (fun z => z h)]; exact h
  · rw [bI_t (tb_1 h)]; exact h
theorem in4 {x : Int32} (h : ¬ inR x 4) : ¬ x = nI 0 ∧ ¬ x = nI 1 ∧ ¬ x = nI 2 ∧ ¬ x = nI 3 := ⟨fun z => h (by rw [z]; decide), fun z => h (by rw [z]; decide), fun z => h (by rw [z]; decide), fun z => h (by rw [z]; decide)⟩
theorem in3 {x : Int32} (h : ¬ inR x 3) : ¬ x = nI 0 ∧ ¬ x = nI 1 ∧ ¬ x = nI 2 := ⟨fun z => h (by rw [z]; decide), fun z => h (by rw [z]; decide), fun z => h (by rw [z]; decide)⟩
def shS (un : Nat → Int32) (k : Nat) : Nat → Int32 := fun j => if j + 50 < k then un (j + 50) else un j
theorem shS_0 (un : Nat → Int32) : shS un 50 = un := by funext j; unfold shS; rw [if_neg (by omega)]
theorem shS_s (un : Nat → Int32) {k : Nat} (h : 50 ≤ k) : upd (shS un k) (k - 50) (shS un k k) = shS un (k + 1) := by
  funext j
  unfold upd shS
  by_cases h1 : j = k - 50
  · rw [if_pos h1, if_neg (by omega), if_pos (by omega), show j + 50 = k by omega]
  · rw [if_neg h1]
    by_cases h2 : j + 50 < k
    · rw [if_pos h2, if_pos (by omega)]
    · rw [if_neg h2, if_neg (by omega)]
def cpU (u w : Nat → Int32) (b k : Nat) : Nat → Int32 := fun j => if b ≤ j ∧ j < b + k then w (j - b) else u j
theorem cpU_0 (u w : Nat → Int32) (b : Nat) : cpU u w b 0 = u := by funext j; unfold cpU; rw [if_neg (by omega)]
theorem cpU_s (u w : Nat → Int32) (b k : Nat) : upd (cpU u w b k) (b + k) (w k) = cpU u w b (k + 1) := by
  funext j
  unfold upd cpU
  by_cases h1 : j = b + k
  · rw [if_pos h1, if_pos (by omega), show j - b = k by omega]
  · rw [if_neg h1]
    by_cases h2 : b ≤ j ∧ j < b + k
    · rw [if_pos h2, if_pos (by omega)]
    · rw [if_neg h2, if_neg (by omega)]
def unK (un f : Nat → Int32) (und : Nat) : Nat → Int32 := if und = 10 then cpU (shS un 500) (nowO f) (50 * 9) 50 else cpU un (nowO f) (50 * und) 50

set_option maxHeartbeats 4000000 in
set_option maxRecDepth 100000 in
theorem kX12_person (l : Launch) (E : EX) (m0 x0 x1 x2 x3 x4 x5 x6 x7 x8 x9 n und nt : Nat) (tr : Int64) (Q : RS) (T : TS) (f : Nat → Int32) (p what : Int32) (hn : T.1 ≤ 6) (hm : T.2.1 ≤ 6) (hS : SI T f) : M l E yX12_person wsX12_person { frames := 2, cells := 0, slots := 0, locals := 46 } 0 0 [.ref m0, .int p, .int what] [(m0, oB 12 [.ref x0, .int (nI n), .int (nI Q.1), .int (nI Q.2.2.1), .int Q.2.1, .int Q.2.2.2, .ref x1, .ref x2, .ref x3, .ref x4, .int (nI und), .ref x5, .ref x6, .int (nI nt), .ref x7, .ref x8, .long tr, .ref x9]), (x2, iA E 21 (papO T)), (x3, iA E 50 (nowO f))] (is1 (some (.int (perS T f p what))) [(m0, oB 12 [.ref x0, .int (nI n), .int (nI Q.1), .int (nI Q.2.2.1), .int Q.2.1, .int Q.2.2.2, .ref x1, .ref x2, .ref x3, .ref x4, .int (nI und), .ref x5, .ref x6, .int (nI nt), .ref x7, .ref x8, .long tr, .ref x9]), (x2, iA E 21 (papO T)), (x3, iA E 50 (nowO f))]) := by
  refine M.ofG (cc := cX12_person) (maxL := 3) (ret := (some .int)) (lv := [(0, .ref m0), (1, .int p), (2, .int what)]) (own := RX12) (by decide) rfl rfl (Nat.le_of_ble_eq_true rfl) rfl ?_
  intro K C X _
  have i12 : ∀ w ∈ wsX120, w ∈ wsX12_person := by decide +kernel
  refine g_aload_n C dX12_person_0 rfl 0 rfl ?_
  refine g_iload_n C dX12_person_1 rfl 1 rfl ?_
  refine g_callV C (rest := []) (n := 1) (kX12_isPerson l E m0 x0 x1 x2 x3 x4 x5 x6 x7 x8 x9 n und nt tr Q T p (by omega)) gX12_person_X12_isPerson rfl ⟨rfl, rfl⟩ (by decide) (Nat.le_of_ble_eq_true rfl) rfl (by decide +kernel) rfl dX12_person_2 0 rfl rfl [0, 1] [2] rfl rfl ?_
  refine g_is1 (ws2 := [(m0, oB 12 [.ref x0, .int (nI n), .int (nI Q.1), .int (nI Q.2.2.1), .int Q.2.1, .int Q.2.2.2, .ref x1, .ref x2, .ref x3, .ref x4, .int (nI und), .ref x5, .ref x6, .int (nI nt), .ref x7, .ref x8, .long tr, .ref x9]), (x2, iA E 21 (papO T)), (x3, iA E 50 (nowO f))]) (st2 := [.int (bI (inR p T.1))]) [1, 2, 0] rfl rfl rfl ?_
  refine g_if_eqB C 20 dX12_person_5 (by decide) (fun cq1 => ?_) (fun cq1 => ?_)
  · refine g_iconst C ((-1)) dX12_person_20 (by decide) ?_
    exact g_iret C X dX12_person_21 (⟨by unfold perS; first | (rw [if_neg cq1]; done) | (obtain ⟨a0, a1, a2, a3⟩ := in4 trivial; rw [if_pos cq1, if_neg a0, if_neg a1, if_neg a2, if_neg a3]; done), rfl⟩)
  · refine g_iload_n C dX12_person_8 rfl 2 rfl ?_
    refine g_i2l C dX12_person_9 ?_
    refine g_lconst C 0 dX12_person_10 rfl ?_
    refine g_ldc2 C (v := 3) (List.mem_of_getElem? (i := 1) rfl) dX12_person_11 ?_
    refine g_callS C (rest := []) (n := 3) (kX12_in_3 l E what ) gX12_person_X12_in rfl ⟨rfl, rfl⟩ (by decide) (Nat.le_of_ble_eq_true rfl) rfl (by decide +kernel) rfl dX12_person_14 [] [0, 1, 2] rfl rfl ?_
    refine g_is1 (ws2 := [(m0, oB 12 [.ref x0, .int (nI n), .int (nI Q.1), .int (nI Q.2.2.1), .int Q.2.1, .int Q.2.2.2, .ref x1, .ref x2, .ref x3, .ref x4, .int (nI und), .ref x5, .ref x6, .int (nI nt), .ref x7, .ref x8, .long tr, .ref x9]), (x2, iA E 21 (papO T)), (x3, iA E 50 (nowO f))]) (st2 := [.int (bI (inR what 4))]) [0, 1, 2] rfl rfl rfl ?_
    refine g_if_neB C 22 dX12_person_17 (by decide) (fun cq2 => ?_) (fun cq2 => ?_)
    · obtain ⟨j, hj_j, rfl⟩ := inR_of (n := T.1) (by omega) cq1
      have hcl_j : (nI j).toNatClampNeg = j := nI_clamp (by omega)
      obtain ⟨w, hj_w, rfl⟩ := inR_of (n := 4) (by decide) cq2
      have hcl_w : (nI w).toNatClampNeg = w := nI_clamp (by omega)
      refine g_iload_n C dX12_person_22 rfl 2 rfl ?_
      refine g_iconst C (nI 2) dX12_person_23 (by decide) ?_
      refine g_icmp_geN C 42 dX12_person_24 (by decide) (by omega) (by omega) (fun cq3 => ?_) (fun cq3 => ?_)
      · refine g_iload_n C dX12_person_42 rfl 2 rfl ?_
        refine g_iconst C (nI 2) dX12_person_43 (by decide) ?_
        refine g_icmp_neN C 58 dX12_person_44 (by decide) (by omega) (by omega) (fun cq4 => ?_) (fun cq4 => ?_)
        · obtain rfl : w = 3 := by omega
          refine g_aload_n C dX12_person_58 rfl 0 rfl ?_
          refine g_iload_n C dX12_person_59 rfl 1 rfl ?_
          refine g_callV C (rest := []) (n := 1) (kX12_safe l E m0 x0 x1 x2 x3 x4 x5 x6 x7 x8 x9 n und nt tr Q T f j (by omega) (by omega) (by omega) (by omega)) gX12_person_X12_safe rfl ⟨rfl, rfl⟩ (by decide) (Nat.le_of_ble_eq_true rfl) rfl (by decide +kernel) rfl dX12_person_60 0 rfl rfl [0, 1, 2] [] rfl rfl ?_
          refine g_is1 (ws2 := [(m0, oB 12 [.ref x0, .int (nI n), .int (nI Q.1), .int (nI Q.2.2.1), .int Q.2.1, .int Q.2.2.2, .ref x1, .ref x2, .ref x3, .ref x4, .int (nI und), .ref x5, .ref x6, .int (nI nt), .ref x7, .ref x8, .long tr, .ref x9]), (x2, iA E 21 (papO T)), (x3, iA E 50 (nowO f))]) (st2 := [.int (safR T.2.2.1 f T.2.1 j T.1)]) [0, 1, 2] rfl rfl rfl ?_
          exact g_iret C X dX12_person_63 (⟨by unfold perS; rw [if_pos cq1, if_neg (show ¬ nI 3 = nI 0 by decide), if_neg (show ¬ nI 3 = nI 1 by decide), if_neg (show ¬ nI 3 = nI 2 by decide), if_pos rfl, hcl_j]; exact congrArg (fun z => some (Value.int z)) (safR_sfS hS hn hm (by omega)), rfl⟩)
        · obtain rfl : w = 2 := cq4
          refine g_aload_n C dX12_person_47 rfl 0 rfl ?_
          refine g_get C i12 0 rfl rfl 8 (by decide) (List.mem_of_getElem? (i := 3) rfl) rfl rfl dX12_person_48 ?_
          refine g_iconst C (nI 2) dX12_person_51 (by decide) ?_
          refine g_iload_n C dX12_person_52 rfl 1 rfl ?_
          refine g_iaddN C dX12_person_53 ?_
          refine g_iald C 2 rfl (by omega) (by decide) dX12_person_54 ?_
          refine g_as (nowO_b (by omega)) ?_
          refine g_goto C 63 dX12_person_55 (by decide) ?_
          exact g_iret C X dX12_person_63 (⟨by unfold perS; rw [if_pos cq1, if_neg (show ¬ nI 2 = nI 0 by decide), if_neg (show ¬ nI 2 = nI 1 by decide), if_pos rfl, hcl_j], rfl⟩)
      · obtain rfl | rfl : w = 0 ∨ w = 1 := by omega
        · refine g_aload_n C dX12_person_27 rfl 0 rfl ?_
          refine g_get C i12 0 rfl rfl 7 (by decide) (List.mem_of_getElem? (i := 2) rfl) rfl rfl dX12_person_28 ?_
          refine g_iconst C (nI 2) dX12_person_31 (by decide) ?_
          refine g_iconst C (nI 2) dX12_person_32 (by decide) ?_
          refine g_iload_n C dX12_person_33 rfl 1 rfl ?_
          refine g_imulN C dX12_person_34 ?_
          refine g_iaddN C dX12_person_35 ?_
          refine g_iload_n C dX12_person_36 rfl 2 rfl ?_
          refine g_iaddN C dX12_person_37 ?_
          refine g_iald C 1 rfl (by omega) (by decide) dX12_person_38 ?_
          refine g_as (papO_k (by omega) (by omega)) ?_
          refine g_goto C 63 dX12_person_39 (by decide) ?_
          exact g_iret C X dX12_person_63 (⟨by unfold perS; rw [if_pos cq1, if_pos rfl, hcl_j], rfl⟩)
        · refine g_aload_n C dX12_person_27 rfl 0 rfl ?_
          refine g_get C i12 0 rfl rfl 7 (by decide) (List.mem_of_getElem? (i := 2) rfl) rfl rfl dX12_person_28 ?_
          refine g_iconst C (nI 2) dX12_person_31 (by decide) ?_
          refine g_iconst C (nI 2) dX12_person_32 (by decide) ?_
          refine g_iload_n C dX12_person_33 rfl 1 rfl ?_
          refine g_imulN C dX12_person_34 ?_
          refine g_iaddN C dX12_person_35 ?_
          refine g_iload_n C dX12_person_36 rfl 2 rfl ?_
          refine g_iaddN C dX12_person_37 ?_
          refine g_iald C 1 rfl (by omega) (by decide) dX12_person_38 ?_
          refine g_as (papO_t (by omega) (by omega)) ?_
          refine g_goto C 63 dX12_person_39 (by decide) ?_
          exact g_iret C X dX12_person_63 (⟨by unfold perS; rw [if_pos cq1, if_neg (show ¬ nI 1 = nI 0 by decide), if_pos rfl, hcl_j], rfl⟩)
    · refine g_iconst C ((-1)) dX12_person_20 (by decide) ?_
      exact g_iret C X dX12_person_21 (⟨by unfold perS; first | (rw [if_neg cq1]; done) | (obtain ⟨a0, a1, a2, a3⟩ := in4 cq2; rw [if_pos cq1, if_neg a0, if_neg a1, if_neg a2, if_neg a3]; done), rfl⟩)

set_option maxHeartbeats 4000000 in
set_option maxRecDepth 100000 in
theorem kX12_clashes (l : Launch) (E : EX) (m0 x0 x1 x2 x3 x4 x5 x6 x7 x8 x9 n und nt : Nat) (tr : Int64) (Q : RS) (T : TS) (t : Int32)  : M l E yX12_clashes wsX12_clashes { frames := 2, cells := 0, slots := 0, locals := 45 } 0 0 [.ref m0, .int t] [(m0, oB 12 [.ref x0, .int (nI n), .int (nI Q.1), .int (nI Q.2.2.1), .int Q.2.1, .int Q.2.2.2, .ref x1, .ref x2, .ref x3, .ref x4, .int (nI und), .ref x5, .ref x6, .int (nI nt), .ref x7, .ref x8, .long tr, .ref x9]), (x2, iA E 21 (papO T))] (is1 (some (.int (clhS T.2.2.2.2 t))) [(m0, oB 12 [.ref x0, .int (nI n), .int (nI Q.1), .int (nI Q.2.2.1), .int Q.2.1, .int Q.2.2.2, .ref x1, .ref x2, .ref x3, .ref x4, .int (nI und), .ref x5, .ref x6, .int (nI nt), .ref x7, .ref x8, .long tr, .ref x9]), (x2, iA E 21 (papO T))]) := by
  refine M.ofG (cc := cX12_clashes) (maxL := 2) (ret := (some .int)) (lv := [(0, .ref m0), (1, .int t)]) (own := RX12) (by decide) rfl rfl (Nat.le_of_ble_eq_true rfl) rfl ?_
  intro K C X _
  have i12 : ∀ w ∈ wsX120, w ∈ wsX12_clashes := by decide +kernel
  refine g_iload_n C dX12_clashes_0 rfl 1 rfl ?_
  refine g_callS C (rest := []) (n := 1) (kX12_isThing l E t ) gX12_clashes_X12_isThing rfl ⟨rfl, rfl⟩ (by decide) (Nat.le_of_ble_eq_true rfl) rfl (by decide +kernel) rfl dX12_clashes_1 [] [0, 1] rfl rfl ?_
  refine g_is1 (ws2 := [(m0, oB 12 [.ref x0, .int (nI n), .int (nI Q.1), .int (nI Q.2.2.1), .int Q.2.1, .int Q.2.2.2, .ref x1, .ref x2, .ref x3, .ref x4, .int (nI und), .ref x5, .ref x6, .int (nI nt), .ref x7, .ref x8, .long tr, .ref x9]), (x2, iA E 21 (papO T))]) (st2 := [.int (bI (inR t 7))]) [0, 1] rfl rfl rfl ?_
  refine g_if_eqB C 19 dX12_clashes_4 (by decide) (fun cq1 => ?_) (fun cq1 => ?_)
  · refine g_iconst C ((-1)) dX12_clashes_19 (by decide) ?_
    exact g_iret C X dX12_clashes_20 (⟨by unfold clhS; first | (rw [if_pos cq1, hcl_j]; done) | (rw [if_neg cq1]; done), rfl⟩)
  · obtain ⟨j, hj_j, rfl⟩ := inR_of (n := 7) (by decide) cq1
    have hcl_j : (nI j).toNatClampNeg = j := nI_clamp (by omega)
    refine g_aload_n C dX12_clashes_7 rfl 0 rfl ?_
    refine g_get C i12 0 rfl rfl 7 (by decide) (List.mem_of_getElem? (i := 1) rfl) rfl rfl dX12_clashes_8 ?_
    refine g_bipush C (nI 14) dX12_clashes_11 (by decide) ?_
    refine g_iload_n C dX12_clashes_13 rfl 1 rfl ?_
    refine g_iaddN C dX12_clashes_14 ?_
    refine g_iald C 1 rfl (by omega) (by decide) dX12_clashes_15 ?_
    refine g_as (papO_c (by omega)) ?_
    refine g_goto C 20 dX12_clashes_16 (by decide) ?_
    exact g_iret C X dX12_clashes_20 (⟨by unfold clhS; first | (rw [if_pos cq1, hcl_j]; done) | (rw [if_neg cq1]; done), rfl⟩)

set_option maxHeartbeats 4000000 in
set_option maxRecDepth 100000 in
theorem kX12_pillow (l : Launch) (E : EX) (m0 x0 x1 x2 x3 x4 x5 x6 x7 x8 x9 n und nt : Nat) (tr : Int64) (Q : RS) (T : TS) (f : Nat → Int32) (q what : Int32) (hn : T.1 ≤ 6) (hm : T.2.1 ≤ 6) (hS : SI T f) : M l E yX12_pillow wsX12_pillow { frames := 2, cells := 0, slots := 0, locals := 46 } 0 0 [.ref m0, .int q, .int what] [(m0, oB 12 [.ref x0, .int (nI n), .int (nI Q.1), .int (nI Q.2.2.1), .int Q.2.1, .int Q.2.2.2, .ref x1, .ref x2, .ref x3, .ref x4, .int (nI und), .ref x5, .ref x6, .int (nI nt), .ref x7, .ref x8, .long tr, .ref x9]), (x2, iA E 21 (papO T)), (x3, iA E 50 (nowO f))] (is1 (some (.int (pilS T.2.1 f q what))) [(m0, oB 12 [.ref x0, .int (nI n), .int (nI Q.1), .int (nI Q.2.2.1), .int Q.2.1, .int Q.2.2.2, .ref x1, .ref x2, .ref x3, .ref x4, .int (nI und), .ref x5, .ref x6, .int (nI nt), .ref x7, .ref x8, .long tr, .ref x9]), (x2, iA E 21 (papO T)), (x3, iA E 50 (nowO f))]) := by
  refine M.ofG (cc := cX12_pillow) (maxL := 3) (ret := (some .int)) (lv := [(0, .ref m0), (1, .int q), (2, .int what)]) (own := RX12) (by decide) rfl rfl (Nat.le_of_ble_eq_true rfl) rfl ?_
  intro K C X _
  have i12 : ∀ w ∈ wsX120, w ∈ wsX12_pillow := by decide +kernel
  refine g_aload_n C dX12_pillow_0 rfl 0 rfl ?_
  refine g_iload_n C dX12_pillow_1 rfl 1 rfl ?_
  refine g_callV C (rest := []) (n := 1) (kX12_isPillow l E m0 x0 x1 x2 x3 x4 x5 x6 x7 x8 x9 n und nt tr Q T q (by omega)) gX12_pillow_X12_isPillow rfl ⟨rfl, rfl⟩ (by decide) (Nat.le_of_ble_eq_true rfl) rfl (by decide +kernel) rfl dX12_pillow_2 0 rfl rfl [0, 1] [2] rfl rfl ?_
  refine g_is1 (ws2 := [(m0, oB 12 [.ref x0, .int (nI n), .int (nI Q.1), .int (nI Q.2.2.1), .int Q.2.1, .int Q.2.2.2, .ref x1, .ref x2, .ref x3, .ref x4, .int (nI und), .ref x5, .ref x6, .int (nI nt), .ref x7, .ref x8, .long tr, .ref x9]), (x2, iA E 21 (papO T)), (x3, iA E 50 (nowO f))]) (st2 := [.int (bI (inR q T.2.1))]) [1, 2, 0] rfl rfl rfl ?_
  refine g_if_eqB C 20 dX12_pillow_5 (by decide) (fun cq1 => ?_) (fun cq1 => ?_)
  · refine g_iconst C ((-1)) dX12_pillow_20 (by decide) ?_
    exact g_iret C X dX12_pillow_21 (⟨by unfold pilS; first | (rw [if_neg cq1]; done) | (obtain ⟨a0, a1, a2⟩ := in3 trivial; rw [if_pos cq1, if_neg a0, if_neg a1, if_neg a2]; done), rfl⟩)
  · refine g_iload_n C dX12_pillow_8 rfl 2 rfl ?_
    refine g_i2l C dX12_pillow_9 ?_
    refine g_lconst C 0 dX12_pillow_10 rfl ?_
    refine g_ldc2 C (v := 2) (List.mem_of_getElem? (i := 1) rfl) dX12_pillow_11 ?_
    refine g_callS C (rest := []) (n := 3) (kX12_in_2 l E what ) gX12_pillow_X12_in rfl ⟨rfl, rfl⟩ (by decide) (Nat.le_of_ble_eq_true rfl) rfl (by decide +kernel) rfl dX12_pillow_14 [] [0, 1, 2] rfl rfl ?_
    refine g_is1 (ws2 := [(m0, oB 12 [.ref x0, .int (nI n), .int (nI Q.1), .int (nI Q.2.2.1), .int Q.2.1, .int Q.2.2.2, .ref x1, .ref x2, .ref x3, .ref x4, .int (nI und), .ref x5, .ref x6, .int (nI nt), .ref x7, .ref x8, .long tr, .ref x9]), (x2, iA E 21 (papO T)), (x3, iA E 50 (nowO f))]) (st2 := [.int (bI (inR what 3))]) [0, 1, 2] rfl rfl rfl ?_
    refine g_if_neB C 22 dX12_pillow_17 (by decide) (fun cq2 => ?_) (fun cq2 => ?_)
    · obtain ⟨j, hj_j, rfl⟩ := inR_of (n := T.2.1) (by omega) cq1
      have hcl_j : (nI j).toNatClampNeg = j := nI_clamp (by omega)
      obtain ⟨w, hj_w, rfl⟩ := inR_of (n := 3) (by decide) cq2
      have hcl_w : (nI w).toNatClampNeg = w := nI_clamp (by omega)
      refine g_iload_n C dX12_pillow_22 rfl 2 rfl ?_
      refine g_if_neN C 34 dX12_pillow_23 (by decide) (by omega) (fun cq3 => ?_) (fun cq3 => ?_)
      · refine g_iload_n C dX12_pillow_34 rfl 2 rfl ?_
        refine g_iconst C (nI 1) dX12_pillow_35 (by decide) ?_
        refine g_icmp_neN C 47 dX12_pillow_36 (by decide) (by omega) (by omega) (fun cq4 => ?_) (fun cq4 => ?_)
        · obtain rfl : w = 2 := by omega
          refine g_aload_n C dX12_pillow_47 rfl 0 rfl ?_
          refine g_get C i12 0 rfl rfl 8 (by decide) (List.mem_of_getElem? (i := 2) rfl) rfl rfl dX12_pillow_48 ?_
          refine g_iconst C (nI 1) dX12_pillow_51 (by decide) ?_
          refine g_iald C 2 rfl (by omega) (by decide) dX12_pillow_52 ?_
          refine g_as (nowO_1 _) ?_
          refine g_iload_n C dX12_pillow_53 rfl 1 rfl ?_
          refine g_ishr C dX12_pillow_54 ?_
          refine g_iconst C (nI 1) dX12_pillow_55 (by decide) ?_
          refine g_iand C dX12_pillow_56 ?_
          exact g_iret C X dX12_pillow_57 (⟨by unfold pilS; rw [if_pos cq1, if_neg (show ¬ nI 2 = nI 0 by decide), if_neg (show ¬ nI 2 = nI 1 by decide), if_pos rfl, hcl_j]; exact congrArg (fun z => some (Value.int z)) (tb_bI (f 48) j), rfl⟩)
        · obtain rfl : w = 1 := cq4
          refine g_aload_n C dX12_pillow_39 rfl 0 rfl ?_
          refine g_iload_n C dX12_pillow_40 rfl 1 rfl ?_
          refine g_callV C (rest := []) (n := 1) (kX12_lieOn l E m0 x0 x1 x2 x3 x4 x5 x6 x7 x8 x9 n und nt tr Q T f j (hn) (by omega) (hS)) gX12_pillow_X12_lieOn rfl ⟨rfl, rfl⟩ (by decide) (Nat.le_of_ble_eq_true rfl) rfl (by decide +kernel) rfl dX12_pillow_41 0 rfl rfl [0, 1, 2] [] rfl rfl ?_
          refine g_is1 (ws2 := [(m0, oB 12 [.ref x0, .int (nI n), .int (nI Q.1), .int (nI Q.2.2.1), .int Q.2.1, .int Q.2.2.2, .ref x1, .ref x2, .ref x3, .ref x4, .int (nI und), .ref x5, .ref x6, .int (nI nt), .ref x7, .ref x8, .long tr, .ref x9]), (x2, iA E 21 (papO T)), (x3, iA E 50 (nowO f))]) (st2 := [.int (slOn f j 6)]) [0, 1, 2] rfl rfl rfl ?_
          refine g_goto C 57 dX12_pillow_44 (by decide) ?_
          exact g_iret C X dX12_pillow_57 (⟨by unfold pilS; rw [if_pos cq1, if_neg (show ¬ nI 1 = nI 0 by decide), if_pos rfl, hcl_j], rfl⟩)
      · obtain rfl : w = 0 := cq3
        refine g_aload_n C dX12_pillow_26 rfl 0 rfl ?_
        refine g_iload_n C dX12_pillow_27 rfl 1 rfl ?_
        refine g_callV C (rest := []) (n := 1) (kX12_hears l E m0 x0 x1 x2 x3 x4 x5 x6 x7 x8 x9 n und nt tr Q f j (by omega)) gX12_pillow_X12_hears rfl ⟨rfl, rfl⟩ (by decide) (Nat.le_of_ble_eq_true rfl) rfl (by decide +kernel) rfl dX12_pillow_28 0 rfl rfl [0, 2] [1] rfl rfl ?_
        refine g_is1 (ws2 := [(m0, oB 12 [.ref x0, .int (nI n), .int (nI Q.1), .int (nI Q.2.2.1), .int Q.2.1, .int Q.2.2.2, .ref x1, .ref x2, .ref x3, .ref x4, .int (nI und), .ref x5, .ref x6, .int (nI nt), .ref x7, .ref x8, .long tr, .ref x9]), (x2, iA E 21 (papO T)), (x3, iA E 50 (nowO f))]) (st2 := [.int (thOn f j 7)]) [1, 0, 2] rfl rfl rfl ?_
        refine g_goto C 57 dX12_pillow_31 (by decide) ?_
        exact g_iret C X dX12_pillow_57 (⟨by unfold pilS; rw [if_pos cq1, if_pos rfl, hcl_j], rfl⟩)
    · refine g_iconst C ((-1)) dX12_pillow_20 (by decide) ?_
      exact g_iret C X dX12_pillow_21 (⟨by unfold pilS; first | (rw [if_neg cq1]; done) | (obtain ⟨a0, a1, a2⟩ := in3 cq2; rw [if_pos cq1, if_neg a0, if_neg a1, if_neg a2]; done), rfl⟩)

set_option maxHeartbeats 4000000 in
set_option maxRecDepth 100000 in
theorem kX12_heard (l : Launch) (E : EX) (m0 x0 x1 x2 x3 x4 x5 x6 x7 x8 x9 n und nt : Nat) (tr : Int64) (Q : RS) (T : TS) (f : Nat → Int32) (q t : Int32) (hm : T.2.1 ≤ 6) : M l E yX12_heard wsX12_heard { frames := 2, cells := 0, slots := 0, locals := 46 } 0 0 [.ref m0, .int q, .int t] [(m0, oB 12 [.ref x0, .int (nI n), .int (nI Q.1), .int (nI Q.2.2.1), .int Q.2.1, .int Q.2.2.2, .ref x1, .ref x2, .ref x3, .ref x4, .int (nI und), .ref x5, .ref x6, .int (nI nt), .ref x7, .ref x8, .long tr, .ref x9]), (x2, iA E 21 (papO T)), (x3, iA E 50 (nowO f))] (is1 (some (.int (hrdS T.2.1 f q t))) [(m0, oB 12 [.ref x0, .int (nI n), .int (nI Q.1), .int (nI Q.2.2.1), .int Q.2.1, .int Q.2.2.2, .ref x1, .ref x2, .ref x3, .ref x4, .int (nI und), .ref x5, .ref x6, .int (nI nt), .ref x7, .ref x8, .long tr, .ref x9]), (x2, iA E 21 (papO T)), (x3, iA E 50 (nowO f))]) := by
  refine M.ofG (cc := cX12_heard) (maxL := 3) (ret := (some .int)) (lv := [(0, .ref m0), (1, .int q), (2, .int t)]) (own := RX12) (by decide) rfl rfl (Nat.le_of_ble_eq_true rfl) rfl ?_
  intro K C X _
  refine g_aload_n C dX12_heard_0 rfl 0 rfl ?_
  refine g_iload_n C dX12_heard_1 rfl 1 rfl ?_
  refine g_callV C (rest := []) (n := 1) (kX12_isPillow l E m0 x0 x1 x2 x3 x4 x5 x6 x7 x8 x9 n und nt tr Q T q (by omega)) gX12_heard_X12_isPillow rfl ⟨rfl, rfl⟩ (by decide) (Nat.le_of_ble_eq_true rfl) rfl (by decide +kernel) rfl dX12_heard_2 0 rfl rfl [0, 1] [2] rfl rfl ?_
  refine g_is1 (ws2 := [(m0, oB 12 [.ref x0, .int (nI n), .int (nI Q.1), .int (nI Q.2.2.1), .int Q.2.1, .int Q.2.2.2, .ref x1, .ref x2, .ref x3, .ref x4, .int (nI und), .ref x5, .ref x6, .int (nI nt), .ref x7, .ref x8, .long tr, .ref x9]), (x2, iA E 21 (papO T)), (x3, iA E 50 (nowO f))]) (st2 := [.int (bI (inR q T.2.1))]) [1, 2, 0] rfl rfl rfl ?_
  refine g_if_eqB C 24 dX12_heard_5 (by decide) (fun cq1 => ?_) (fun cq1 => ?_)
  · refine g_iconst C ((-1)) dX12_heard_24 (by decide) ?_
    exact g_iret C X dX12_heard_25 (⟨by unfold hrdS; first | (rw [if_pos cq1, if_pos trivial, hcl_j, hcl_i]; done) | (rw [if_pos cq1, if_neg trivial]; done) | (rw [if_neg cq1]; done), rfl⟩)
  · refine g_iload_n C dX12_heard_8 rfl 2 rfl ?_
    refine g_callS C (rest := []) (n := 1) (kX12_isThing l E t ) gX12_heard_X12_isThing rfl ⟨rfl, rfl⟩ (by decide) (Nat.le_of_ble_eq_true rfl) rfl (by decide +kernel) rfl dX12_heard_9 [] [0, 1, 2] rfl rfl ?_
    refine g_is1 (ws2 := [(m0, oB 12 [.ref x0, .int (nI n), .int (nI Q.1), .int (nI Q.2.2.1), .int Q.2.1, .int Q.2.2.2, .ref x1, .ref x2, .ref x3, .ref x4, .int (nI und), .ref x5, .ref x6, .int (nI nt), .ref x7, .ref x8, .long tr, .ref x9]), (x2, iA E 21 (papO T)), (x3, iA E 50 (nowO f))]) (st2 := [.int (bI (inR t 7))]) [0, 1, 2] rfl rfl rfl ?_
    refine g_if_eqB C 24 dX12_heard_12 (by decide) (fun cq2 => ?_) (fun cq2 => ?_)
    · refine g_iconst C ((-1)) dX12_heard_24 (by decide) ?_
      exact g_iret C X dX12_heard_25 (⟨by unfold hrdS; first | (rw [if_pos cq1, if_pos cq2, hcl_j, hcl_i]; done) | (rw [if_pos cq1, if_neg cq2]; done) | (rw [if_neg cq1]; done), rfl⟩)
    · obtain ⟨j, hj_j, rfl⟩ := inR_of (n := T.2.1) (by omega) cq1
      have hcl_j : (nI j).toNatClampNeg = j := nI_clamp (by omega)
      obtain ⟨i, hj_i, rfl⟩ := inR_of (n := 7) (by decide) cq2
      have hcl_i : (nI i).toNatClampNeg = i := nI_clamp (by omega)
      refine g_aload_n C dX12_heard_15 rfl 0 rfl ?_
      refine g_iload_n C dX12_heard_16 rfl 1 rfl ?_
      refine g_iload_n C dX12_heard_17 rfl 2 rfl ?_
      refine g_callV C (rest := []) (n := 2) (kX12_often l E m0 x0 x1 x2 x3 x4 x5 x6 x7 x8 x9 n und nt tr Q f j i (by omega) (by omega)) gX12_heard_X12_often rfl ⟨rfl, rfl⟩ (by decide) (Nat.le_of_ble_eq_true rfl) rfl (by decide +kernel) rfl dX12_heard_18 0 rfl rfl [0, 2] [1] rfl rfl ?_
      refine g_is1 (ws2 := [(m0, oB 12 [.ref x0, .int (nI n), .int (nI Q.1), .int (nI Q.2.2.1), .int Q.2.1, .int Q.2.2.2, .ref x1, .ref x2, .ref x3, .ref x4, .int (nI und), .ref x5, .ref x6, .int (nI nt), .ref x7, .ref x8, .long tr, .ref x9]), (x2, iA E 21 (papO T)), (x3, iA E 50 (nowO f))]) (st2 := [.int (f (j * 7 + i))]) [1, 0, 2] rfl rfl rfl ?_
      refine g_goto C 25 dX12_heard_21 (by decide) ?_
      exact g_iret C X dX12_heard_25 (⟨by unfold hrdS; first | (rw [if_pos cq1, if_pos cq2, hcl_j, hcl_i]; done) | (rw [if_pos cq1, if_neg cq2]; done) | (rw [if_neg cq1]; done), rfl⟩)

set_option maxHeartbeats 4000000 in
set_option maxRecDepth 100000 in
theorem kX12_against (l : Launch) (E : EX) (m0 x0 x1 x2 x3 x4 x5 x6 x7 x8 x9 n und nt : Nat) (tr : Int64) (Q : RS) (T : TS) (f : Nat → Int32) (hT : TI T) (hm : T.2.1 ≤ 6) (hS : SI T f) : M l E yX12_against wsX12_against { frames := 3, cells := 0, slots := 0, locals := 68 } 0 0 [.ref m0] [(m0, oB 12 [.ref x0, .int (nI n), .int (nI Q.1), .int (nI Q.2.2.1), .int Q.2.1, .int Q.2.2.2, .ref x1, .ref x2, .ref x3, .ref x4, .int (nI und), .ref x5, .ref x6, .int (nI nt), .ref x7, .ref x8, .long tr, .ref x9]), (x2, iA E 21 (papO T)), (x3, iA E 50 (nowO f))] (is1 (some (.int (clW T.2.2.2.2 (thSet f (nI 63) 6) 7 / nI 2))) [(m0, oB 12 [.ref x0, .int (nI n), .int (nI Q.1), .int (nI Q.2.2.1), .int Q.2.1, .int Q.2.2.2, .ref x1, .ref x2, .ref x3, .ref x4, .int (nI und), .ref x5, .ref x6, .int (nI nt), .ref x7, .ref x8, .long tr, .ref x9]), (x2, iA E 21 (papO T)), (x3, iA E 50 (nowO f))]) := by
  refine M.ofG (cc := cX12_against) (maxL := 4) (ret := (some .int)) (lv := [(0, .ref m0)]) (own := RX12) (by decide) rfl rfl (Nat.le_of_ble_eq_true rfl) rfl ?_
  intro K C X _
  have i12 : ∀ w ∈ wsX120, w ∈ wsX12_against := by decide +kernel
  refine g_aload_n C dX12_against_0 rfl 0 rfl ?_
  refine g_bipush C (nI 63) dX12_against_1 (by decide) ?_
  refine g_callV C (rest := []) (n := 1) (kX12_hear l E m0 x0 x1 x2 x3 x4 x5 x6 x7 x8 x9 n und nt tr Q T f (nI 63) (hm) (hS)) gX12_against_X12_hear rfl ⟨rfl, rfl⟩ (by decide) (Nat.le_of_ble_eq_true rfl) rfl (by decide +kernel) rfl dX12_against_3 0 rfl rfl [0, 1, 2] [] rfl rfl ?_
  refine g_is1 (ws2 := [(m0, oB 12 [.ref x0, .int (nI n), .int (nI Q.1), .int (nI Q.2.2.1), .int Q.2.1, .int Q.2.2.2, .ref x1, .ref x2, .ref x3, .ref x4, .int (nI und), .ref x5, .ref x6, .int (nI nt), .ref x7, .ref x8, .long tr, .ref x9]), (x2, iA E 21 (papO T)), (x3, iA E 50 (nowO f))]) (st2 := [.int (thSet f (nI 63) 6)]) [0, 1, 2] rfl rfl rfl ?_
  refine g_istore_n C (lv' := [(1, .int (thSet f (nI 63) 6)), (0, .ref m0)]) dX12_against_6 rfl (by decide) rfl ?_
  refine g_iconst C (nI 0) dX12_against_7 (by decide) ?_
  refine g_istore_n C (lv' := [(2, .int (nI 0)), (1, .int (thSet f (nI 63) 6)), (0, .ref m0)]) dX12_against_8 rfl (by decide) rfl ?_
  refine g_iconst C (nI 0) dX12_against_9 (by decide) ?_
  refine g_istore_n C (lv' := [(3, .int (nI 0)), (2, .int (nI 0)), (1, .int (thSet f (nI 63) 6)), (0, .ref m0)]) dX12_against_10 rfl (by decide) rfl ?_
  have L11 : ∀ (zz k : Nat) (a : Int32), k + zz = 7 + 1 → k ≤ 7 → (a = clW T.2.2.2.2 (thSet f (nI 63) 6) k) → G K 0 0 11 [(0, .ref m0), (1, .int (thSet f (nI 63) 6)), (2, .int a), (3, .int (nI k))] [] [(m0, oB 12 [.ref x0, .int (nI n), .int (nI Q.1), .int (nI Q.2.2.1), .int Q.2.1, .int Q.2.2.2, .ref x1, .ref x2, .ref x3, .ref x4, .int (nI und), .ref x5, .ref x6, .int (nI nt), .ref x7, .ref x8, .long tr, .ref x9]), (x2, iA E 21 (papO T)), (x3, iA E 50 (nowO f))] := by
    intro zz
    induction zz with
    | zero => intro k a hL11 gL11; exfalso; omega
    | succ zz ihL11 =>
      intro k a hL11 gL11 ha
      refine g_iload_n C dX12_against_11 rfl 3 rfl ?_
      refine g_bipush C (nI 7) dX12_against_12 (by decide) ?_
      refine g_icmp_geN C 53 dX12_against_14 (by decide) (by omega) (by omega) (fun cq1 => ?_) (fun cq1 => ?_)
      · have hk : k = 7 := by omega
        refine g_iload_n C dX12_against_53 rfl 2 rfl ?_
        refine g_iconst C (nI 2) dX12_against_54 (by decide) ?_
        refine g_idiv C dX12_against_55 (by decide) ?_
        exact g_iret C X dX12_against_56 (⟨by rw [ha, hk], rfl⟩)
      · refine g_iload_n C dX12_against_17 rfl 2 rfl ?_
        refine g_iload_n C dX12_against_18 rfl 1 rfl ?_
        refine g_iload_n C dX12_against_19 rfl 3 rfl ?_
        refine g_ishr C dX12_against_20 ?_
        refine g_iconst C (nI 1) dX12_against_21 (by decide) ?_
        refine g_iand C dX12_against_22 ?_
        refine g_iconst C (nI 1) dX12_against_23 (by decide) ?_
        refine g_icmp_ne C 44 dX12_against_24 (by decide) (fun cq2 => ?_) (fun cq2 => ?_)
        · refine g_iconst C (nI 0) dX12_against_44 (by decide) ?_
          refine g_iadd C dX12_against_45 ?_
          refine g_istore_n C (lv' := [(2, .int (a + (nI 0))), (0, .ref m0), (1, .int (thSet f (nI 63) 6)), (3, .int (nI k))]) dX12_against_46 rfl (by decide) rfl ?_
          refine g_iincN C (lv' := [(3, .int (nI (k + 1))), (2, .int (a + (nI 0))), (0, .ref m0), (1, .int (thSet f (nI 63) 6))]) dX12_against_47 3 rfl (by decide) rfl ?_
          refine g_goto C 11 dX12_against_50 (by decide) ?_
          refine g_sub (lv' := [(0, .ref m0), (1, .int (thSet f (nI 63) 6)), (2, .int (a + (nI 0))), (3, .int (nI (k + 1)))]) [2, 3, 1, 0] rfl ?_
          exact ihL11 (k + 1) (a + (nI 0)) (by omega) (by omega) (by rw [clW, ← ha]; first | (rw [if_pos (tb_n1 cq2), addz]; done) | (rw [if_neg (tb_1 cq2)]; done))
        · refine g_aload_n C dX12_against_27 rfl 0 rfl ?_
          refine g_get C i12 0 rfl rfl 7 (by decide) (List.mem_of_getElem? (i := 1) rfl) rfl rfl dX12_against_28 ?_
          refine g_bipush C (nI 14) dX12_against_31 (by decide) ?_
          refine g_iload_n C dX12_against_33 rfl 3 rfl ?_
          refine g_iaddN C dX12_against_34 ?_
          refine g_iald C 1 rfl (by omega) (by decide) dX12_against_35 ?_
          refine g_as (papO_c (by omega)) ?_
          refine g_iload_n C dX12_against_36 rfl 1 rfl ?_
          refine g_iand C dX12_against_37 ?_
          refine g_callS C (rest := [.int a]) (n := 1) (kX12_many l E ((T.2.2.2.2 k) &&& (thSet f (nI 63) 6)) (s7_andl (hT.2.2.2.2.2.1 k (by omega)) _)) gX12_against_X12_many rfl ⟨rfl, rfl⟩ (by decide) (Nat.le_of_ble_eq_true rfl) rfl (by decide +kernel) rfl dX12_against_38 [] [0, 1, 2] rfl rfl ?_
          refine g_is1 (ws2 := [(m0, oB 12 [.ref x0, .int (nI n), .int (nI Q.1), .int (nI Q.2.2.1), .int Q.2.1, .int Q.2.2.2, .ref x1, .ref x2, .ref x3, .ref x4, .int (nI und), .ref x5, .ref x6, .int (nI nt), .ref x7, .ref x8, .long tr, .ref x9]), (x2, iA E 21 (papO T)), (x3, iA E 50 (nowO f))]) (st2 := [.int (bc ((T.2.2.2.2 k) &&& (thSet f (nI 63) 6))), .int a]) [0, 1, 2] rfl rfl rfl ?_
          refine g_goto C 45 dX12_against_41 (by decide) ?_
          refine g_iadd C dX12_against_45 ?_
          refine g_istore_n C (lv' := [(2, .int (a + (bc ((T.2.2.2.2 k) &&& (thSet f (nI 63) 6))))), (0, .ref m0), (1, .int (thSet f (nI 63) 6)), (3, .int (nI k))]) dX12_against_46 rfl (by decide) rfl ?_
          refine g_iincN C (lv' := [(3, .int (nI (k + 1))), (2, .int (a + (bc ((T.2.2.2.2 k) &&& (thSet f (nI 63) 6))))), (0, .ref m0), (1, .int (thSet f (nI 63) 6))]) dX12_against_47 3 rfl (by decide) rfl ?_
          refine g_goto C 11 dX12_against_50 (by decide) ?_
          refine g_sub (lv' := [(0, .ref m0), (1, .int (thSet f (nI 63) 6)), (2, .int (a + (bc ((T.2.2.2.2 k) &&& (thSet f (nI 63) 6))))), (3, .int (nI (k + 1)))]) [2, 3, 1, 0] rfl ?_
          exact ihL11 (k + 1) (a + (bc ((T.2.2.2.2 k) &&& (thSet f (nI 63) 6)))) (by omega) (by omega) (by rw [clW, ← ha]; first | (rw [if_pos (tb_n1 cq2), addz]; done) | (rw [if_neg (tb_1 cq2)]; done))
  refine g_sub (lv' := [(0, .ref m0), (1, .int (thSet f (nI 63) 6)), (2, .int (nI 0)), (3, .int (nI 0))]) [3, 2, 1, 0] rfl ?_
  exact L11 (7 + 1 - 0) 0 (nI 0) (by omega) (by omega) (by first | rfl | omega | (simp []; done))

set_option maxHeartbeats 4000000 in
set_option maxRecDepth 100000 in
theorem kX12_alone (l : Launch) (E : EX) (m0 x0 x1 x2 x3 x4 x5 x6 x7 x8 x9 n und nt : Nat) (tr : Int64) (Q : RS) (T : TS) (hn : T.1 ≤ 6) : M l E yX12_alone wsX12_alone { frames := 1, cells := 0, slots := 0, locals := 21 } 0 0 [.ref m0] [(m0, oB 12 [.ref x0, .int (nI n), .int (nI Q.1), .int (nI Q.2.2.1), .int Q.2.1, .int Q.2.2.2, .ref x1, .ref x2, .ref x3, .ref x4, .int (nI und), .ref x5, .ref x6, .int (nI nt), .ref x7, .ref x8, .long tr, .ref x9]), (x2, iA E 21 (papO T))] (is1 (some (.int ((kn1 T.2.2.1 T.1).1 &&& ((kn1 T.2.2.1 T.1).2 ^^^ (-1))))) [(m0, oB 12 [.ref x0, .int (nI n), .int (nI Q.1), .int (nI Q.2.2.1), .int Q.2.1, .int Q.2.2.2, .ref x1, .ref x2, .ref x3, .ref x4, .int (nI und), .ref x5, .ref x6, .int (nI nt), .ref x7, .ref x8, .long tr, .ref x9]), (x2, iA E 21 (papO T))]) := by
  refine M.ofG (cc := cX12_alone) (maxL := 4) (ret := (some .int)) (lv := [(0, .ref m0)]) (own := RX12) (by decide) rfl rfl (Nat.le_of_ble_eq_true rfl) rfl ?_
  intro K C X _
  have i12 : ∀ w ∈ wsX120, w ∈ wsX12_alone := by decide +kernel
  refine g_iconst C (nI 0) dX12_alone_0 (by decide) ?_
  refine g_istore_n C (lv' := [(1, .int (nI 0)), (0, .ref m0)]) dX12_alone_1 rfl (by decide) rfl ?_
  refine g_iconst C (nI 0) dX12_alone_2 (by decide) ?_
  refine g_istore_n C (lv' := [(2, .int (nI 0)), (1, .int (nI 0)), (0, .ref m0)]) dX12_alone_3 rfl (by decide) rfl ?_
  refine g_iconst C (nI 0) dX12_alone_4 (by decide) ?_
  refine g_istore_n C (lv' := [(3, .int (nI 0)), (2, .int (nI 0)), (1, .int (nI 0)), (0, .ref m0)]) dX12_alone_5 rfl (by decide) rfl ?_
  have L6 : ∀ (zz k : Nat) (a : Int32) (b : Int32), k + zz = T.1 + 1 → k ≤ T.1 → (a = (kn1 T.2.2.1 k).1) → (b = (kn1 T.2.2.1 k).2) → G K 0 0 6 [(0, .ref m0), (1, .int a), (2, .int b), (3, .int (nI k))] [] [(m0, oB 12 [.ref x0, .int (nI n), .int (nI Q.1), .int (nI Q.2.2.1), .int Q.2.1, .int Q.2.2.2, .ref x1, .ref x2, .ref x3, .ref x4, .int (nI und), .ref x5, .ref x6, .int (nI nt), .ref x7, .ref x8, .long tr, .ref x9]), (x2, iA E 21 (papO T))] := by
    intro zz
    induction zz with
    | zero => intro k a b hL6 gL6; exfalso; omega
    | succ zz ihL6 =>
      intro k a b hL6 gL6 ha hb
      refine g_iload_n C dX12_alone_6 rfl 3 rfl ?_
      refine g_aload_n C dX12_alone_7 rfl 0 rfl ?_
      refine g_get C i12 0 rfl rfl 7 (by decide) (List.mem_of_getElem? (i := 1) rfl) rfl rfl dX12_alone_8 ?_
      refine g_iconst C (nI 0) dX12_alone_11 (by decide) ?_
      refine g_iald C 1 rfl (by omega) (by decide) dX12_alone_12 ?_
      refine g_as (papO_0 _) ?_
      refine g_icmp_geN C 40 dX12_alone_13 (by decide) (by omega) (by omega) (fun cq1 => ?_) (fun cq1 => ?_)
      · have hk : k = T.1 := by omega
        refine g_iload_n C dX12_alone_40 rfl 1 rfl ?_
        refine g_iload_n C dX12_alone_41 rfl 2 rfl ?_
        refine g_iconst C ((-1)) dX12_alone_42 (by decide) ?_
        refine g_ixor C dX12_alone_43 ?_
        refine g_iand C dX12_alone_44 ?_
        exact g_iret C X dX12_alone_45 (⟨by rw [ha, hb, hk], rfl⟩)
      · refine g_iload_n C dX12_alone_16 rfl 2 rfl ?_
        refine g_iload_n C dX12_alone_17 rfl 1 rfl ?_
        refine g_aload_n C dX12_alone_18 rfl 0 rfl ?_
        refine g_iload_n C dX12_alone_19 rfl 3 rfl ?_
        refine g_callV C (rest := [.int a, .int b]) (n := 1) (kX12_knows l E m0 x0 x1 x2 x3 x4 x5 x6 x7 x8 x9 n und nt tr Q T k (by omega) (by omega)) gX12_alone_X12_knows rfl ⟨rfl, rfl⟩ (by decide) (Nat.le_of_ble_eq_true rfl) rfl (by decide +kernel) rfl dX12_alone_20 0 rfl rfl [0, 1] [] rfl rfl ?_
        refine g_is1 (ws2 := [(m0, oB 12 [.ref x0, .int (nI n), .int (nI Q.1), .int (nI Q.2.2.1), .int Q.2.1, .int Q.2.2.2, .ref x1, .ref x2, .ref x3, .ref x4, .int (nI und), .ref x5, .ref x6, .int (nI nt), .ref x7, .ref x8, .long tr, .ref x9]), (x2, iA E 21 (papO T))]) (st2 := [.int (T.2.2.1 k), .int a, .int b]) [0, 1] rfl rfl rfl ?_
        refine g_iand C dX12_alone_23 ?_
        refine g_ior C dX12_alone_24 ?_
        refine g_istore_n C (lv' := [(2, .int (b ||| (a &&& (T.2.2.1 k)))), (0, .ref m0), (1, .int a), (3, .int (nI k))]) dX12_alone_25 rfl (by decide) rfl ?_
        refine g_iload_n C dX12_alone_26 rfl 2 rfl ?_
        refine g_aload_n C dX12_alone_27 rfl 1 rfl ?_
        refine g_iload_n C dX12_alone_28 rfl 3 rfl ?_
        refine g_callV C (rest := [.int a]) (n := 1) (kX12_knows l E m0 x0 x1 x2 x3 x4 x5 x6 x7 x8 x9 n und nt tr Q T k (by omega) (by omega)) gX12_alone_X12_knows rfl ⟨rfl, rfl⟩ (by decide) (Nat.le_of_ble_eq_true rfl) rfl (by decide +kernel) rfl dX12_alone_29 0 rfl rfl [0, 1] [] rfl rfl ?_
        refine g_is1 (ws2 := [(m0, oB 12 [.ref x0, .int (nI n), .int (nI Q.1), .int (nI Q.2.2.1), .int Q.2.1, .int Q.2.2.2, .ref x1, .ref x2, .ref x3, .ref x4, .int (nI und), .ref x5, .ref x6, .int (nI nt), .ref x7, .ref x8, .long tr, .ref x9]), (x2, iA E 21 (papO T))]) (st2 := [.int (T.2.2.1 k), .int a]) [0, 1] rfl rfl rfl ?_
        refine g_ior C dX12_alone_32 ?_
        refine g_istore_n C (lv' := [(1, .int (a ||| (T.2.2.1 k))), (2, .int (b ||| (a &&& (T.2.2.1 k)))), (0, .ref m0), (3, .int (nI k))]) dX12_alone_33 rfl (by decide) rfl ?_
        refine g_iincN C (lv' := [(3, .int (nI (k + 1))), (1, .int (a ||| (T.2.2.1 k))), (2, .int (b ||| (a &&& (T.2.2.1 k)))), (0, .ref m0)]) dX12_alone_34 3 rfl (by decide) rfl ?_
        refine g_goto C 6 dX12_alone_37 (by decide) ?_
        refine g_sub (lv' := [(0, .ref m0), (1, .int (a ||| (T.2.2.1 k))), (2, .int (b ||| (a &&& (T.2.2.1 k)))), (3, .int (nI (k + 1)))]) [3, 1, 2, 0] rfl ?_
        exact ihL6 (k + 1) (a ||| (T.2.2.1 k)) (b ||| (a &&& (T.2.2.1 k))) (by omega) (by omega) (by rw [kn1, ← ha]) (by rw [kn1, ← ha, ← hb])
  refine g_sub (lv' := [(0, .ref m0), (1, .int (nI 0)), (2, .int (nI 0)), (3, .int (nI 0))]) [3, 2, 1, 0] rfl ?_
  exact L6 (T.1 + 1 - 0) 0 (nI 0) (nI 0) (by omega) (by omega) (by first | rfl | omega | (simp []; done)) (by first | rfl | omega | (simp []; done))

set_option maxHeartbeats 4000000 in
set_option maxRecDepth 100000 in
theorem kX12_now (l : Launch) (E : EX) (m0 x0 x1 x2 x3 x4 x5 x6 x7 x8 x9 n und nt : Nat) (tr : Int64) (Q : RS) (T : TS) (f : Nat → Int32) (what : Int32) (hT : TI T) (hn : T.1 ≤ 6) (hm : T.2.1 ≤ 6) (hS : SI T f) : M l E yX12_now wsX12_now { frames := 4, cells := 0, slots := 0, locals := 91 } 0 0 [.ref m0, .int what] [(m0, oB 12 [.ref x0, .int (nI n), .int (nI Q.1), .int (nI Q.2.2.1), .int Q.2.1, .int Q.2.2.2, .ref x1, .ref x2, .ref x3, .ref x4, .int (nI und), .ref x5, .ref x6, .int (nI nt), .ref x7, .ref x8, .long tr, .ref x9]), (x2, iA E 21 (papO T)), (x3, iA E 50 (nowO f))] (is1 (some (.int (nowS T f und what))) [(m0, oB 12 [.ref x0, .int (nI n), .int (nI Q.1), .int (nI Q.2.2.1), .int Q.2.1, .int Q.2.2.2, .ref x1, .ref x2, .ref x3, .ref x4, .int (nI und), .ref x5, .ref x6, .int (nI nt), .ref x7, .ref x8, .long tr, .ref x9]), (x2, iA E 21 (papO T)), (x3, iA E 50 (nowO f))]) := by
  refine M.ofG (cc := cX12_now) (maxL := 2) (ret := (some .int)) (lv := [(0, .ref m0), (1, .int what)]) (own := RX12) (by decide) rfl rfl (Nat.le_of_ble_eq_true rfl) rfl ?_
  intro K C X _
  have i12 : ∀ w ∈ wsX120, w ∈ wsX12_now := by decide +kernel
  refine g_iload_n C dX12_now_0 rfl 1 rfl ?_
  by_cases cq1 : what = nI 0
  · refine g_tableIn C 40 dX12_now_1 (by rw [cq1]; decide) (by rw [cq1]; decide) (off := 39) (by rw [cq1]; rfl) (by decide) ?_
    refine g_aload_n C dX12_now_40 rfl 0 rfl ?_
    refine g_get C i12 0 rfl rfl 8 (by decide) (List.mem_of_getElem? (i := 1) rfl) rfl rfl dX12_now_41 ?_
    refine g_iconst C (nI 0) dX12_now_44 (by decide) ?_
    refine g_iald C 2 rfl (by omega) (by decide) dX12_now_45 ?_
    refine g_as (nowO_0 _) ?_
    exact g_iret C X dX12_now_46 (⟨by unfold nowS; rw [if_pos cq1], rfl⟩)
  by_cases cq2 : what = nI 1
  · refine g_tableIn C 47 dX12_now_1 (by rw [cq2]; decide) (by rw [cq2]; decide) (off := 46) (by rw [cq2]; rfl) (by decide) ?_
    refine g_aload_n C dX12_now_47 rfl 0 rfl ?_
    refine g_aload_n C dX12_now_48 rfl 0 rfl ?_
    refine g_get C i12 0 rfl rfl 8 (by decide) (List.mem_of_getElem? (i := 1) rfl) rfl rfl dX12_now_49 ?_
    refine g_iconst C (nI 1) dX12_now_52 (by decide) ?_
    refine g_iald C 2 rfl (by omega) (by decide) dX12_now_53 ?_
    refine g_as (nowO_1 _) ?_
    refine g_callV C (rest := []) (n := 1) (kX12_hear l E m0 x0 x1 x2 x3 x4 x5 x6 x7 x8 x9 n und nt tr Q T f (f 48) (hm) (hS)) gX12_now_X12_hear rfl ⟨rfl, rfl⟩ (by decide) (Nat.le_of_ble_eq_true rfl) rfl (by decide +kernel) rfl dX12_now_54 0 rfl rfl [0, 1, 2] [] rfl rfl ?_
    refine g_is1 (ws2 := [(m0, oB 12 [.ref x0, .int (nI n), .int (nI Q.1), .int (nI Q.2.2.1), .int Q.2.1, .int Q.2.2.2, .ref x1, .ref x2, .ref x3, .ref x4, .int (nI und), .ref x5, .ref x6, .int (nI nt), .ref x7, .ref x8, .long tr, .ref x9]), (x2, iA E 21 (papO T)), (x3, iA E 50 (nowO f))]) (st2 := [.int (thSet f (f 48) 6)]) [0, 1, 2] rfl rfl rfl ?_
    exact g_iret C X dX12_now_57 (⟨by unfold nowS; rw [if_neg cq1, if_pos cq2], rfl⟩)
  by_cases cq3 : what = nI 2
  · refine g_tableIn C 58 dX12_now_1 (by rw [cq3]; decide) (by rw [cq3]; decide) (off := 57) (by rw [cq3]; rfl) (by decide) ?_
    refine g_aload_n C dX12_now_58 rfl 0 rfl ?_
    refine g_callV C (rest := []) (n := 0) (kX12_against l E m0 x0 x1 x2 x3 x4 x5 x6 x7 x8 x9 n und nt tr Q T f (hT) (hm) (hS)) gX12_now_X12_against rfl ⟨rfl, rfl⟩ (by decide) (Nat.le_of_ble_eq_true rfl) rfl (by decide +kernel) rfl dX12_now_59 0 rfl rfl [0, 1, 2] [] rfl rfl ?_
    refine g_is1 (ws2 := [(m0, oB 12 [.ref x0, .int (nI n), .int (nI Q.1), .int (nI Q.2.2.1), .int Q.2.1, .int Q.2.2.2, .ref x1, .ref x2, .ref x3, .ref x4, .int (nI und), .ref x5, .ref x6, .int (nI nt), .ref x7, .ref x8, .long tr, .ref x9]), (x2, iA E 21 (papO T)), (x3, iA E 50 (nowO f))]) (st2 := [.int (clW T.2.2.2.2 (thSet f (nI 63) 6) 7 / nI 2)]) [0, 1, 2] rfl rfl rfl ?_
    exact g_iret C X dX12_now_62 (⟨by unfold nowS; rw [if_neg cq1, if_neg cq2, if_pos cq3], rfl⟩)
  by_cases cq4 : what = nI 3
  · refine g_tableIn C 63 dX12_now_1 (by rw [cq4]; decide) (by rw [cq4]; decide) (off := 62) (by rw [cq4]; rfl) (by decide) ?_
    refine g_aload_n C dX12_now_63 rfl 0 rfl ?_
    refine g_bipush C (nI 63) dX12_now_64 (by decide) ?_
    refine g_callV C (rest := []) (n := 1) (kX12_hear l E m0 x0 x1 x2 x3 x4 x5 x6 x7 x8 x9 n und nt tr Q T f (nI 63) (hm) (hS)) gX12_now_X12_hear rfl ⟨rfl, rfl⟩ (by decide) (Nat.le_of_ble_eq_true rfl) rfl (by decide +kernel) rfl dX12_now_66 0 rfl rfl [0, 1, 2] [] rfl rfl ?_
    refine g_is1 (ws2 := [(m0, oB 12 [.ref x0, .int (nI n), .int (nI Q.1), .int (nI Q.2.2.1), .int Q.2.1, .int Q.2.2.2, .ref x1, .ref x2, .ref x3, .ref x4, .int (nI und), .ref x5, .ref x6, .int (nI nt), .ref x7, .ref x8, .long tr, .ref x9]), (x2, iA E 21 (papO T)), (x3, iA E 50 (nowO f))]) (st2 := [.int (thSet f (nI 63) 6)]) [0, 1, 2] rfl rfl rfl ?_
    exact g_iret C X dX12_now_69 (⟨by unfold nowS; rw [if_neg cq1, if_neg cq2, if_neg cq3, if_pos cq4], rfl⟩)
  by_cases cq5 : what = nI 4
  · refine g_tableIn C 70 dX12_now_1 (by rw [cq5]; decide) (by rw [cq5]; decide) (off := 69) (by rw [cq5]; rfl) (by decide) ?_
    refine g_aload_n C dX12_now_70 rfl 0 rfl ?_
    refine g_callV C (rest := []) (n := 0) (kX12_alone l E m0 x0 x1 x2 x3 x4 x5 x6 x7 x8 x9 n und nt tr Q T (hn)) gX12_now_X12_alone rfl ⟨rfl, rfl⟩ (by decide) (Nat.le_of_ble_eq_true rfl) rfl (by decide +kernel) rfl dX12_now_71 0 rfl rfl [0, 1] [2] rfl rfl ?_
    refine g_is1 (ws2 := [(m0, oB 12 [.ref x0, .int (nI n), .int (nI Q.1), .int (nI Q.2.2.1), .int Q.2.1, .int Q.2.2.2, .ref x1, .ref x2, .ref x3, .ref x4, .int (nI und), .ref x5, .ref x6, .int (nI nt), .ref x7, .ref x8, .long tr, .ref x9]), (x2, iA E 21 (papO T)), (x3, iA E 50 (nowO f))]) (st2 := [.int ((kn1 T.2.2.1 T.1).1 &&& ((kn1 T.2.2.1 T.1).2 ^^^ (-1)))]) [1, 2, 0] rfl rfl rfl ?_
    exact g_iret C X dX12_now_74 (⟨by unfold nowS; rw [if_neg cq1, if_neg cq2, if_neg cq3, if_neg cq4, if_pos cq5], rfl⟩)
  by_cases cq6 : what = nI 5
  · refine g_tableIn C 75 dX12_now_1 (by rw [cq6]; decide) (by rw [cq6]; decide) (off := 74) (by rw [cq6]; rfl) (by decide) ?_
    refine g_aload_n C dX12_now_75 rfl 0 rfl ?_
    refine g_get C i12 0 rfl rfl 10 (by decide) (List.mem_of_getElem? (i := 2) rfl) rfl rfl dX12_now_76 ?_
    exact g_iret C X dX12_now_79 (⟨by unfold nowS; rw [if_neg cq1, if_neg cq2, if_neg cq3, if_neg cq4, if_neg cq5, if_pos cq6], rfl⟩)
  refine g_tableOut C 80 dX12_now_1 (ts_out6 cq1 cq2 cq3 cq4 cq5 cq6) (by decide) ?_
  refine g_iconst C ((-1)) dX12_now_80 (by decide) ?_
  exact g_iret C X dX12_now_81 (⟨by unfold nowS; rw [if_neg cq1, if_neg cq2, if_neg cq3, if_neg cq4, if_neg cq5, if_neg cq6], rfl⟩)

set_option maxHeartbeats 4000000 in
set_option maxRecDepth 100000 in
theorem kX12_keepsUndo (l : Launch) (E : EX) (m0 x0 x1 x2 x3 x4 x5 x6 x7 x8 x9 n und nt : Nat) (tr : Int64) (Q : RS) (f un : Nat → Int32) (hu : und ≤ 10) : M l E yX12_keepsUndo wsX12_keepsUndo { frames := 0, cells := 0, slots := 0, locals := 0 } 0 0 [.ref m0] [(m0, oB 12 [.ref x0, .int (nI n), .int (nI Q.1), .int (nI Q.2.2.1), .int Q.2.1, .int Q.2.2.2, .ref x1, .ref x2, .ref x3, .ref x4, .int (nI und), .ref x5, .ref x6, .int (nI nt), .ref x7, .ref x8, .long tr, .ref x9]), (x3, iA E 50 (nowO f)), (x4, iA E 500 un)] (is1 none [(m0, oB 12 [.ref x0, .int (nI n), .int (nI Q.1), .int (nI Q.2.2.1), .int Q.2.1, .int Q.2.2.2, .ref x1, .ref x2, .ref x3, .ref x4, .int (nI (min (und + 1) 10)), .ref x5, .ref x6, .int (nI nt), .ref x7, .ref x8, .long tr, .ref x9]), (x3, iA E 50 (nowO f)), (x4, iA E 500 (unK un f und))]) := by
  refine M.ofG (cc := cX12_keepsUndo) (maxL := 2) (ret := none) (lv := [(0, .ref m0)]) (own := RX12) (by decide) rfl rfl (Nat.le_of_ble_eq_true rfl) rfl ?_
  intro K C X _
  have i12 : ∀ w ∈ wsX120, w ∈ wsX12_keepsUndo := by decide +kernel
  refine g_aload_n C dX12_keepsUndo_0 rfl 0 rfl ?_
  refine g_get C i12 0 rfl rfl 10 (by decide) (List.mem_of_getElem? (i := 1) rfl) rfl rfl dX12_keepsUndo_1 ?_
  refine g_bipush C (nI 10) dX12_keepsUndo_4 (by decide) ?_
  refine g_icmp_neN C 46 dX12_keepsUndo_6 (by decide) (by omega) (by omega) (fun cq1 => ?_) (fun cq1 => ?_)
  · refine g_iconst C (nI 0) dX12_keepsUndo_46 (by decide) ?_
    refine g_istore_n C (lv' := [(1, .int (nI 0)), (0, .ref m0)]) dX12_keepsUndo_47 rfl (by decide) rfl ?_
    have L48 : ∀ (zz k2 : Nat) (v : Nat → Int32), k2 + zz = 50 + 1 → k2 ≤ 50 → (v = cpU un (nowO f) (50 * und) k2) → G K 0 0 48 [(0, .ref m0), (1, .int (nI k2))] [] [(m0, oB 12 [.ref x0, .int (nI n), .int (nI Q.1), .int (nI Q.2.2.1), .int Q.2.1, .int Q.2.2.2, .ref x1, .ref x2, .ref x3, .ref x4, .int (nI und), .ref x5, .ref x6, .int (nI nt), .ref x7, .ref x8, .long tr, .ref x9]), (x3, iA E 50 (nowO f)), (x4, iA E 500 v)] := by
      intro zz
      induction zz with
      | zero => intro k2 v hL48 gL48; exfalso; omega
      | succ zz ihL48 =>
        intro k2 v hL48 gL48 hv9
        refine g_iload_n C dX12_keepsUndo_48 rfl 1 rfl ?_
        refine g_bipush C (nI 50) dX12_keepsUndo_49 (by decide) ?_
        refine g_icmp_geN C 80 dX12_keepsUndo_51 (by decide) (by omega) (by omega) (fun cq2 => ?_) (fun cq2 => ?_)
        · refine g_aload_n C dX12_keepsUndo_80 rfl 0 rfl ?_
          refine g_dup C dX12_keepsUndo_81 rfl ?_
          refine g_get C i12 0 rfl rfl 10 (by decide) (List.mem_of_getElem? (i := 1) rfl) rfl rfl dX12_keepsUndo_82 ?_
          refine g_iconst C (nI 1) dX12_keepsUndo_85 (by decide) ?_
          refine g_iaddN C dX12_keepsUndo_86 ?_
          refine g_put C i12 tyX12 tyX12_ok nmX12 0 rfl rfl 10 (by decide) (List.mem_of_getElem? (i := 1) rfl) rfl rfl rfl rfl rfl (Nat.le_of_ble_eq_true rfl) dX12_keepsUndo_87 (ws' := [(m0, oB 12 [.ref x0, .int (nI n), .int (nI Q.1), .int (nI Q.2.2.1), .int Q.2.1, .int Q.2.2.2, .ref x1, .ref x2, .ref x3, .ref x4, .int (nI (und + 1)), .ref x5, .ref x6, .int (nI nt), .ref x7, .ref x8, .long tr, .ref x9]), (x3, iA E 50 (nowO f)), (x4, iA E 500 v)]) rfl ?_
          exact g_vret C X dX12_keepsUndo_90 (⟨rfl, by first | (rw [hv9, show k2 = 50 by omega, unK, if_neg cq1, show min (und + 1) 10 = und + 1 by omega]; done) | (rw [hv9, show k2 = 50 by omega, hk]; rfl)⟩)
        · refine g_aload_n C dX12_keepsUndo_54 rfl 0 rfl ?_
          refine g_get C i12 0 rfl rfl 9 (by decide) (List.mem_of_getElem? (i := 2) rfl) rfl rfl dX12_keepsUndo_55 ?_
          refine g_bipush C (nI 50) dX12_keepsUndo_58 (by decide) ?_
          refine g_aload_n C dX12_keepsUndo_60 rfl 0 rfl ?_
          refine g_get C i12 0 rfl rfl 10 (by decide) (List.mem_of_getElem? (i := 1) rfl) rfl rfl dX12_keepsUndo_61 ?_
          refine g_imulN C dX12_keepsUndo_64 ?_
          refine g_iload_n C dX12_keepsUndo_65 rfl 1 rfl ?_
          refine g_iaddN C dX12_keepsUndo_66 ?_
          refine g_aload_n C dX12_keepsUndo_67 rfl 0 rfl ?_
          refine g_get C i12 0 rfl rfl 8 (by decide) (List.mem_of_getElem? (i := 3) rfl) rfl rfl dX12_keepsUndo_68 ?_
          refine g_iload_n C dX12_keepsUndo_71 rfl 1 rfl ?_
          refine g_iald C 1 rfl (by omega) (by decide) dX12_keepsUndo_72 ?_
          refine g_iast C (ws' := fun fq3 => [(m0, oB 12 [.ref x0, .int (nI n), .int (nI Q.1), .int (nI Q.2.2.1), .int Q.2.1, .int Q.2.2.2, .ref x1, .ref x2, .ref x3, .ref x4, .int (nI und), .ref x5, .ref x6, .int (nI nt), .ref x7, .ref x8, .long tr, .ref x9]), (x3, iA E 50 (nowO f)), (x4, iA E 500 fq3)]) 2 rfl (by omega) (by decide) dX12_keepsUndo_73 (fun _ _ => rfl) (fun fq3 efq3 => ?_)
          refine g_iincN C (lv' := [(1, .int (nI (k2 + 1))), (0, .ref m0)]) dX12_keepsUndo_74 1 rfl (by decide) rfl ?_
          refine g_goto C 48 dX12_keepsUndo_77 (by decide) ?_
          refine g_sub (lv' := [(0, .ref m0), (1, .int (nI (k2 + 1)))]) [1, 0] rfl ?_
          exact ihL48 (k2 + 1) fq3 (by omega) (by omega) (by rw [efq3, hv9, cpU_s])
    refine g_sub (lv' := [(0, .ref m0), (1, .int (nI 0))]) [1, 0] rfl ?_
    exact L48 (50 + 1 - 0) 0 un (by omega) (by omega) ((cpU_0 _ _ _).symm)
  · obtain rfl : und = 10 := cq1
    refine g_bipush C (nI 50) dX12_keepsUndo_9 (by decide) ?_
    refine g_istore_n C (lv' := [(1, .int (nI 50)), (0, .ref m0)]) dX12_keepsUndo_11 rfl (by decide) rfl ?_
    have L12 : ∀ (zz k : Nat) (u : Nat → Int32), k + zz = 500 + 1 → k ≤ 500 → (u = shS un k) → (50 ≤ k) → G K 0 0 12 [(0, .ref m0), (1, .int (nI k))] [] [(m0, oB 12 [.ref x0, .int (nI n), .int (nI Q.1), .int (nI Q.2.2.1), .int Q.2.1, .int Q.2.2.2, .ref x1, .ref x2, .ref x3, .ref x4, .int (nI 10), .ref x5, .ref x6, .int (nI nt), .ref x7, .ref x8, .long tr, .ref x9]), (x3, iA E 50 (nowO f)), (x4, iA E 500 u)] := by
      intro zz
      induction zz with
      | zero => intro k u hL12 gL12; exfalso; omega
      | succ zz ihL12 =>
        intro k u hL12 gL12 hu9 hk50
        refine g_iload_n C dX12_keepsUndo_12 rfl 1 rfl ?_
        refine g_sipush C (nI 500) dX12_keepsUndo_13 (by decide) ?_
        refine g_icmp_geN C 40 dX12_keepsUndo_16 (by decide) (by omega) (by omega) (fun cq4 => ?_) (fun cq4 => ?_)
        · have hk : u = shS un 500 := by rw [hu9, show k = 500 by omega]
          refine g_aload_n C dX12_keepsUndo_40 rfl 0 rfl ?_
          refine g_bipush C (nI 9) dX12_keepsUndo_41 (by decide) ?_
          refine g_put C i12 tyX12 tyX12_ok nmX12 0 rfl rfl 10 (by decide) (List.mem_of_getElem? (i := 1) rfl) rfl rfl rfl rfl rfl (Nat.le_of_ble_eq_true rfl) dX12_keepsUndo_43 (ws' := [(m0, oB 12 [.ref x0, .int (nI n), .int (nI Q.1), .int (nI Q.2.2.1), .int Q.2.1, .int Q.2.2.2, .ref x1, .ref x2, .ref x3, .ref x4, .int (nI 9), .ref x5, .ref x6, .int (nI nt), .ref x7, .ref x8, .long tr, .ref x9]), (x3, iA E 50 (nowO f)), (x4, iA E 500 u)]) rfl ?_
          refine g_iconst C (nI 0) dX12_keepsUndo_46 (by decide) ?_
          refine g_istore_n C (lv' := [(1, .int (nI 0)), (0, .ref m0)]) dX12_keepsUndo_47 rfl (by decide) rfl ?_
          have L48x : ∀ (zz k2 : Nat) (v : Nat → Int32), k2 + zz = 50 + 1 → k2 ≤ 50 → (v = cpU u (nowO f) (50 * 9) k2) → G K 0 0 48 [(0, .ref m0), (1, .int (nI k2))] [] [(m0, oB 12 [.ref x0, .int (nI n), .int (nI Q.1), .int (nI Q.2.2.1), .int Q.2.1, .int Q.2.2.2, .ref x1, .ref x2, .ref x3, .ref x4, .int (nI 9), .ref x5, .ref x6, .int (nI nt), .ref x7, .ref x8, .long tr, .ref x9]), (x3, iA E 50 (nowO f)), (x4, iA E 500 v)] := by
            intro zz
            induction zz with
            | zero => intro k2 v hL48x gL48x; exfalso; omega
            | succ zz ihL48x =>
              intro k2 v hL48x gL48x hv9
              refine g_iload_n C dX12_keepsUndo_48 rfl 1 rfl ?_
              refine g_bipush C (nI 50) dX12_keepsUndo_49 (by decide) ?_
              refine g_icmp_geN C 80 dX12_keepsUndo_51 (by decide) (by omega) (by omega) (fun cq5 => ?_) (fun cq5 => ?_)
              · refine g_aload_n C dX12_keepsUndo_80 rfl 0 rfl ?_
                refine g_dup C dX12_keepsUndo_81 rfl ?_
                refine g_get C i12 0 rfl rfl 10 (by decide) (List.mem_of_getElem? (i := 1) rfl) rfl rfl dX12_keepsUndo_82 ?_
                refine g_iconst C (nI 1) dX12_keepsUndo_85 (by decide) ?_
                refine g_iaddN C dX12_keepsUndo_86 ?_
                refine g_put C i12 tyX12 tyX12_ok nmX12 0 rfl rfl 10 (by decide) (List.mem_of_getElem? (i := 1) rfl) rfl rfl rfl rfl rfl (Nat.le_of_ble_eq_true rfl) dX12_keepsUndo_87 (ws' := [(m0, oB 12 [.ref x0, .int (nI n), .int (nI Q.1), .int (nI Q.2.2.1), .int Q.2.1, .int Q.2.2.2, .ref x1, .ref x2, .ref x3, .ref x4, .int (nI (9 + 1)), .ref x5, .ref x6, .int (nI nt), .ref x7, .ref x8, .long tr, .ref x9]), (x3, iA E 50 (nowO f)), (x4, iA E 500 v)]) rfl ?_
                exact g_vret C X dX12_keepsUndo_90 (⟨rfl, by first | (rw [hv9, show k2 = 50 by omega, unK, if_neg cq1, show min (und + 1) 10 = und + 1 by omega]; done) | (rw [hv9, show k2 = 50 by omega, hk]; rfl)⟩)
              · refine g_aload_n C dX12_keepsUndo_54 rfl 0 rfl ?_
                refine g_get C i12 0 rfl rfl 9 (by decide) (List.mem_of_getElem? (i := 2) rfl) rfl rfl dX12_keepsUndo_55 ?_
                refine g_bipush C (nI 50) dX12_keepsUndo_58 (by decide) ?_
                refine g_aload_n C dX12_keepsUndo_60 rfl 0 rfl ?_
                refine g_get C i12 0 rfl rfl 10 (by decide) (List.mem_of_getElem? (i := 1) rfl) rfl rfl dX12_keepsUndo_61 ?_
                refine g_imulN C dX12_keepsUndo_64 ?_
                refine g_iload_n C dX12_keepsUndo_65 rfl 1 rfl ?_
                refine g_iaddN C dX12_keepsUndo_66 ?_
                refine g_aload_n C dX12_keepsUndo_67 rfl 0 rfl ?_
                refine g_get C i12 0 rfl rfl 8 (by decide) (List.mem_of_getElem? (i := 3) rfl) rfl rfl dX12_keepsUndo_68 ?_
                refine g_iload_n C dX12_keepsUndo_71 rfl 1 rfl ?_
                refine g_iald C 1 rfl (by omega) (by decide) dX12_keepsUndo_72 ?_
                refine g_iast C (ws' := fun fq6 => [(m0, oB 12 [.ref x0, .int (nI n), .int (nI Q.1), .int (nI Q.2.2.1), .int Q.2.1, .int Q.2.2.2, .ref x1, .ref x2, .ref x3, .ref x4, .int (nI 9), .ref x5, .ref x6, .int (nI nt), .ref x7, .ref x8, .long tr, .ref x9]), (x3, iA E 50 (nowO f)), (x4, iA E 500 fq6)]) 2 rfl (by omega) (by decide) dX12_keepsUndo_73 (fun _ _ => rfl) (fun fq6 efq6 => ?_)
                refine g_iincN C (lv' := [(1, .int (nI (k2 + 1))), (0, .ref m0)]) dX12_keepsUndo_74 1 rfl (by decide) rfl ?_
                refine g_goto C 48 dX12_keepsUndo_77 (by decide) ?_
                refine g_sub (lv' := [(0, .ref m0), (1, .int (nI (k2 + 1)))]) [1, 0] rfl ?_
                exact ihL48x (k2 + 1) fq6 (by omega) (by omega) (by rw [efq6, hv9, cpU_s])
          refine g_sub (lv' := [(0, .ref m0), (1, .int (nI 0))]) [1, 0] rfl ?_
          exact L48x (50 + 1 - 0) 0 u (by omega) (by omega) ((cpU_0 _ _ _).symm)
        · refine g_aload_n C dX12_keepsUndo_19 rfl 0 rfl ?_
          refine g_get C i12 0 rfl rfl 9 (by decide) (List.mem_of_getElem? (i := 2) rfl) rfl rfl dX12_keepsUndo_20 ?_
          refine g_iload_n C dX12_keepsUndo_23 rfl 1 rfl ?_
          refine g_bipush C (nI 50) dX12_keepsUndo_24 (by decide) ?_
          refine g_isubN C dX12_keepsUndo_26 (by omega) ?_
          refine g_aload_n C dX12_keepsUndo_27 rfl 0 rfl ?_
          refine g_get C i12 0 rfl rfl 9 (by decide) (List.mem_of_getElem? (i := 2) rfl) rfl rfl dX12_keepsUndo_28 ?_
          refine g_iload_n C dX12_keepsUndo_31 rfl 1 rfl ?_
          refine g_iald C 2 rfl (by omega) (by decide) dX12_keepsUndo_32 ?_
          refine g_iast C (ws' := fun fq7 => [(m0, oB 12 [.ref x0, .int (nI n), .int (nI Q.1), .int (nI Q.2.2.1), .int Q.2.1, .int Q.2.2.2, .ref x1, .ref x2, .ref x3, .ref x4, .int (nI 10), .ref x5, .ref x6, .int (nI nt), .ref x7, .ref x8, .long tr, .ref x9]), (x3, iA E 50 (nowO f)), (x4, iA E 500 fq7)]) 2 rfl (by omega) (by decide) dX12_keepsUndo_33 (fun _ _ => rfl) (fun fq7 efq7 => ?_)
          refine g_iincN C (lv' := [(1, .int (nI (k + 1))), (0, .ref m0)]) dX12_keepsUndo_34 1 rfl (by decide) rfl ?_
          refine g_goto C 12 dX12_keepsUndo_37 (by decide) ?_
          refine g_sub (lv' := [(0, .ref m0), (1, .int (nI (k + 1)))]) [1, 0] rfl ?_
          exact ihL12 (k + 1) fq7 (by omega) (by omega) (by rw [efq7, hu9, shS_s un hk50]) (by first | omega | (simp [cq1, hu9, hk50, cq4, efq7]; done))
    refine g_sub (lv' := [(0, .ref m0), (1, .int (nI 50))]) [1, 0] rfl ?_
    exact L12 (500 + 1 - 50) 50 un (by omega) (by omega) ((shS_0 un).symm) (Nat.le_refl 50)

set_option maxHeartbeats 4000000 in
set_option maxRecDepth 100000 in
theorem kX12_lays (l : Launch) (E : EX) (m0 x0 x1 x2 x3 x4 x5 x6 x7 x8 x9 n und nt : Nat) (tr : Int64) (Q : RS) (T : TS) (f : Nat → Int32) (un : Nat → Int32) (p q : Int32) (hn : T.1 ≤ 6) (hm : T.2.1 ≤ 6) (hu : und ≤ 10) : M l E yX12_lays wsX12_lays { frames := 2, cells := 0, slots := 0, locals := 46 } 0 0 [.ref m0, .int p, .int q] [(m0, oB 12 [.ref x0, .int (nI n), .int (nI Q.1), .int (nI Q.2.2.1), .int Q.2.1, .int Q.2.2.2, .ref x1, .ref x2, .ref x3, .ref x4, .int (nI und), .ref x5, .ref x6, .int (nI nt), .ref x7, .ref x8, .long tr, .ref x9]), (x2, iA E 21 (papO T)), (x3, iA E 50 (nowO f)), (x4, iA E 500 un)] (is1 (some (.int (if layO T p q then f (42 + p.toNatClampNeg) else (-1)))) [(m0, oB 12 [.ref x0, .int (nI n), .int (nI Q.1), .int (nI Q.2.2.1), .int Q.2.1, .int Q.2.2.2, .ref x1, .ref x2, .ref x3, .ref x4, .int (nI (if layO T p q then min (und + 1) 10 else und)), .ref x5, .ref x6, .int (nI nt), .ref x7, .ref x8, .long tr, .ref x9]), (x2, iA E 21 (papO T)), (x3, iA E 50 (nowO (if layO T p q then layF f p q else f))), (x4, iA E 500 (if layO T p q then unK un f und else un))]) := by
  refine M.ofG (cc := cX12_lays) (maxL := 4) (ret := (some .int)) (lv := [(0, .ref m0), (1, .int p), (2, .int q)]) (own := RX12) (by decide) rfl rfl (Nat.le_of_ble_eq_true rfl) rfl ?_
  intro K C X _
  have i12 : ∀ w ∈ wsX120, w ∈ wsX12_lays := by decide +kernel
  refine g_aload_n C dX12_lays_0 rfl 0 rfl ?_
  refine g_iload_n C dX12_lays_1 rfl 1 rfl ?_
  refine g_callV C (rest := []) (n := 1) (kX12_isPerson l E m0 x0 x1 x2 x3 x4 x5 x6 x7 x8 x9 n und nt tr Q T p (by omega)) gX12_lays_X12_isPerson rfl ⟨rfl, rfl⟩ (by decide) (Nat.le_of_ble_eq_true rfl) rfl (by decide +kernel) rfl dX12_lays_2 0 rfl rfl [0, 1] [2, 3] rfl rfl ?_
  refine g_is1 (ws2 := [(m0, oB 12 [.ref x0, .int (nI n), .int (nI Q.1), .int (nI Q.2.2.1), .int Q.2.1, .int Q.2.2.2, .ref x1, .ref x2, .ref x3, .ref x4, .int (nI und), .ref x5, .ref x6, .int (nI nt), .ref x7, .ref x8, .long tr, .ref x9]), (x2, iA E 21 (papO T)), (x3, iA E 50 (nowO f)), (x4, iA E 500 un)]) (st2 := [.int (bI (inR p T.1))]) [2, 3, 0, 1] rfl rfl rfl ?_
  refine g_if_eqB C 21 dX12_lays_5 (by decide) (fun cq1 => ?_) (fun cq1 => ?_)
  · have hno : ¬ layO T p q := fun z => cq1 z.1
    refine g_iconst C ((-1)) dX12_lays_21 (by decide) ?_
    exact g_iret C X dX12_lays_22 (⟨by rw [if_neg hno], by rw [if_neg (hno), if_neg (hno), if_neg (hno)]⟩)
  · refine g_iload_n C dX12_lays_8 rfl 2 rfl ?_
    refine g_iconst C ((-1)) dX12_lays_9 (by decide) ?_
    refine g_icmp_eq C 23 dX12_lays_10 (by decide) (fun cq2 => ?_) (fun cq2 => ?_)
    · have hok : layO T p q := ⟨cq1, Or.inl cq2⟩
      obtain ⟨j, hj_j, rfl⟩ := inR_of (n := T.1) (by omega) cq1
      have hcl_j : (nI j).toNatClampNeg = j := nI_clamp (by omega)
      refine g_aload_n C dX12_lays_23 rfl 0 rfl ?_
      refine g_callV C (rest := []) (n := 0) (kX12_keepsUndo l E m0 x0 x1 x2 x3 x4 x5 x6 x7 x8 x9 n und nt tr Q f un (by omega)) gX12_lays_X12_keepsUndo rfl ⟨rfl, rfl⟩ (by decide) (Nat.le_of_ble_eq_true rfl) rfl (by decide +kernel) rfl dX12_lays_24 0 rfl rfl [0, 2, 3] [1] rfl rfl ?_
      refine g_is1 (ws2 := [(m0, oB 12 [.ref x0, .int (nI n), .int (nI Q.1), .int (nI Q.2.2.1), .int Q.2.1, .int Q.2.2.2, .ref x1, .ref x2, .ref x3, .ref x4, .int (nI (min (und + 1) 10)), .ref x5, .ref x6, .int (nI nt), .ref x7, .ref x8, .long tr, .ref x9]), (x2, iA E 21 (papO T)), (x3, iA E 50 (nowO f)), (x4, iA E 500 (unK un f und))]) (st2 := []) [1, 0, 2, 3] rfl rfl rfl ?_
      refine g_aload_n C dX12_lays_27 rfl 0 rfl ?_
      refine g_get C i12 0 rfl rfl 8 (by decide) (List.mem_of_getElem? (i := 1) rfl) rfl rfl dX12_lays_28 ?_
      refine g_iconst C (nI 2) dX12_lays_31 (by decide) ?_
      refine g_iload_n C dX12_lays_32 rfl 1 rfl ?_
      refine g_iaddN C dX12_lays_33 ?_
      refine g_iald C 2 rfl (by omega) (by decide) dX12_lays_34 ?_
      refine g_as (nowO_b (by omega)) ?_
      refine g_istore_n C (lv' := [(3, .int (f (42 + j))), (0, .ref m0), (1, .int (nI j)), (2, .int q)]) dX12_lays_35 rfl (by decide) rfl ?_
      refine g_aload_n C dX12_lays_36 rfl 1 rfl ?_
      refine g_get C i12 0 rfl rfl 8 (by decide) (List.mem_of_getElem? (i := 1) rfl) rfl rfl dX12_lays_37 ?_
      refine g_iconst C (nI 2) dX12_lays_40 (by decide) ?_
      refine g_iload_n C dX12_lays_41 rfl 2 rfl ?_
      refine g_iaddN C dX12_lays_42 ?_
      refine g_iload_n C dX12_lays_43 rfl 3 rfl ?_
      refine g_iconst C ((-1)) dX12_lays_44 (by decide) ?_
      refine g_icmp_ne C 53 dX12_lays_45 (by decide) (fun cq3 => ?_) (fun cq3 => ?_)
      · have hv : layV q = q := if_neg cq3
        refine g_iload_n C dX12_lays_53 rfl 3 rfl ?_
        refine g_iast C (ws' := fun fq4 => [(m0, oB 12 [.ref x0, .int (nI n), .int (nI Q.1), .int (nI Q.2.2.1), .int Q.2.1, .int Q.2.2.2, .ref x1, .ref x2, .ref x3, .ref x4, .int (nI (min (und + 1) 10)), .ref x5, .ref x6, .int (nI nt), .ref x7, .ref x8, .long tr, .ref x9]), (x2, iA E 21 (papO T)), (x3, iA E 50 fq4), (x4, iA E 500 (unK un f und))]) 2 rfl (by omega) (by decide) dX12_lays_54 (fun _ _ => rfl) (fun fq4 efq4 => ?_)
        obtain ⟨wq5, ewq5, rfl⟩ : ∃ z : Nat → Int32, z = upd f (42 + j) q ∧ fq4 = nowO z := ⟨_, rfl, efq4.trans (nowO_ub (by omega))⟩
        refine g_iload_n C dX12_lays_55 rfl 0 rfl ?_
        exact g_iret C X dX12_lays_56 (⟨by rw [if_pos hok, hcl_j], by rw [if_pos (hok), if_pos (hok), if_pos (hok)]; rw [layF, hcl_j, hv, ewq5]⟩)
      · have hv : layV q = (-9) := if_pos cq3
        refine g_bipush C ((-9)) dX12_lays_48 (by decide) ?_
        refine g_goto C 54 dX12_lays_50 (by decide) ?_
        refine g_iast C (ws' := fun fq6 => [(m0, oB 12 [.ref x0, .int (nI n), .int (nI Q.1), .int (nI Q.2.2.1), .int Q.2.1, .int Q.2.2.2, .ref x1, .ref x2, .ref x3, .ref x4, .int (nI (min (und + 1) 10)), .ref x5, .ref x6, .int (nI nt), .ref x7, .ref x8, .long tr, .ref x9]), (x2, iA E 21 (papO T)), (x3, iA E 50 fq6), (x4, iA E 500 (unK un f und))]) 2 rfl (by omega) (by decide) dX12_lays_54 (fun _ _ => rfl) (fun fq6 efq6 => ?_)
        obtain ⟨wq7, ewq7, rfl⟩ : ∃ z : Nat → Int32, z = upd f (42 + j) (-9) ∧ fq6 = nowO z := ⟨_, rfl, efq6.trans (nowO_ub (by omega))⟩
        refine g_iload_n C dX12_lays_55 rfl 0 rfl ?_
        exact g_iret C X dX12_lays_56 (⟨by rw [if_pos hok, hcl_j], by rw [if_pos (hok), if_pos (hok), if_pos (hok)]; rw [layF, hcl_j, hv, ewq7]⟩)
    · refine g_aload_n C dX12_lays_13 rfl 0 rfl ?_
      refine g_iload_n C dX12_lays_14 rfl 2 rfl ?_
      refine g_callV C (rest := []) (n := 1) (kX12_isPillow l E m0 x0 x1 x2 x3 x4 x5 x6 x7 x8 x9 n und nt tr Q T q (by omega)) gX12_lays_X12_isPillow rfl ⟨rfl, rfl⟩ (by decide) (Nat.le_of_ble_eq_true rfl) rfl (by decide +kernel) rfl dX12_lays_15 0 rfl rfl [0, 1] [2, 3] rfl rfl ?_
      refine g_is1 (ws2 := [(m0, oB 12 [.ref x0, .int (nI n), .int (nI Q.1), .int (nI Q.2.2.1), .int Q.2.1, .int Q.2.2.2, .ref x1, .ref x2, .ref x3, .ref x4, .int (nI und), .ref x5, .ref x6, .int (nI nt), .ref x7, .ref x8, .long tr, .ref x9]), (x2, iA E 21 (papO T)), (x3, iA E 50 (nowO f)), (x4, iA E 500 un)]) (st2 := [.int (bI (inR q T.2.1))]) [2, 3, 0, 1] rfl rfl rfl ?_
      refine g_if_neB C 23 dX12_lays_18 (by decide) (fun cq8 => ?_) (fun cq8 => ?_)
      · have hok : layO T p q := ⟨cq1, Or.inr cq8⟩
        obtain ⟨j, hj_j, rfl⟩ := inR_of (n := T.1) (by omega) cq1
        have hcl_j : (nI j).toNatClampNeg = j := nI_clamp (by omega)
        refine g_aload_n C dX12_lays_23 rfl 0 rfl ?_
        refine g_callV C (rest := []) (n := 0) (kX12_keepsUndo l E m0 x0 x1 x2 x3 x4 x5 x6 x7 x8 x9 n und nt tr Q f un (by omega)) gX12_lays_X12_keepsUndo rfl ⟨rfl, rfl⟩ (by decide) (Nat.le_of_ble_eq_true rfl) rfl (by decide +kernel) rfl dX12_lays_24 0 rfl rfl [0, 2, 3] [1] rfl rfl ?_
        refine g_is1 (ws2 := [(m0, oB 12 [.ref x0, .int (nI n), .int (nI Q.1), .int (nI Q.2.2.1), .int Q.2.1, .int Q.2.2.2, .ref x1, .ref x2, .ref x3, .ref x4, .int (nI (min (und + 1) 10)), .ref x5, .ref x6, .int (nI nt), .ref x7, .ref x8, .long tr, .ref x9]), (x2, iA E 21 (papO T)), (x3, iA E 50 (nowO f)), (x4, iA E 500 (unK un f und))]) (st2 := []) [1, 0, 2, 3] rfl rfl rfl ?_
        refine g_aload_n C dX12_lays_27 rfl 0 rfl ?_
        refine g_get C i12 0 rfl rfl 8 (by decide) (List.mem_of_getElem? (i := 1) rfl) rfl rfl dX12_lays_28 ?_
        refine g_iconst C (nI 2) dX12_lays_31 (by decide) ?_
        refine g_iload_n C dX12_lays_32 rfl 1 rfl ?_
        refine g_iaddN C dX12_lays_33 ?_
        refine g_iald C 2 rfl (by omega) (by decide) dX12_lays_34 ?_
        refine g_as (nowO_b (by omega)) ?_
        refine g_istore_n C (lv' := [(3, .int (f (42 + j))), (0, .ref m0), (1, .int (nI j)), (2, .int q)]) dX12_lays_35 rfl (by decide) rfl ?_
        refine g_aload_n C dX12_lays_36 rfl 1 rfl ?_
        refine g_get C i12 0 rfl rfl 8 (by decide) (List.mem_of_getElem? (i := 1) rfl) rfl rfl dX12_lays_37 ?_
        refine g_iconst C (nI 2) dX12_lays_40 (by decide) ?_
        refine g_iload_n C dX12_lays_41 rfl 2 rfl ?_
        refine g_iaddN C dX12_lays_42 ?_
        refine g_iload_n C dX12_lays_43 rfl 3 rfl ?_
        refine g_iconst C ((-1)) dX12_lays_44 (by decide) ?_
        refine g_icmp_ne C 53 dX12_lays_45 (by decide) (fun cq9 => ?_) (fun cq9 => ?_)
        · have hv : layV q = q := if_neg cq9
          refine g_iload_n C dX12_lays_53 rfl 3 rfl ?_
          refine g_iast C (ws' := fun fq10 => [(m0, oB 12 [.ref x0, .int (nI n), .int (nI Q.1), .int (nI Q.2.2.1), .int Q.2.1, .int Q.2.2.2, .ref x1, .ref x2, .ref x3, .ref x4, .int (nI (min (und + 1) 10)), .ref x5, .ref x6, .int (nI nt), .ref x7, .ref x8, .long tr, .ref x9]), (x2, iA E 21 (papO T)), (x3, iA E 50 fq10), (x4, iA E 500 (unK un f und))]) 2 rfl (by omega) (by decide) dX12_lays_54 (fun _ _ => rfl) (fun fq10 efq10 => ?_)
          obtain ⟨wq11, ewq11, rfl⟩ : ∃ z : Nat → Int32, z = upd f (42 + j) q ∧ fq10 = nowO z := ⟨_, rfl, efq10.trans (nowO_ub (by omega))⟩
          refine g_iload_n C dX12_lays_55 rfl 0 rfl ?_
          exact g_iret C X dX12_lays_56 (⟨by rw [if_pos hok, hcl_j], by rw [if_pos (hok), if_pos (hok), if_pos (hok)]; rw [layF, hcl_j, hv, ewq11]⟩)
        · have hv : layV q = (-9) := if_pos cq9
          refine g_bipush C ((-9)) dX12_lays_48 (by decide) ?_
          refine g_goto C 54 dX12_lays_50 (by decide) ?_
          refine g_iast C (ws' := fun fq12 => [(m0, oB 12 [.ref x0, .int (nI n), .int (nI Q.1), .int (nI Q.2.2.1), .int Q.2.1, .int Q.2.2.2, .ref x1, .ref x2, .ref x3, .ref x4, .int (nI (min (und + 1) 10)), .ref x5, .ref x6, .int (nI nt), .ref x7, .ref x8, .long tr, .ref x9]), (x2, iA E 21 (papO T)), (x3, iA E 50 fq12), (x4, iA E 500 (unK un f und))]) 2 rfl (by omega) (by decide) dX12_lays_54 (fun _ _ => rfl) (fun fq12 efq12 => ?_)
          obtain ⟨wq13, ewq13, rfl⟩ : ∃ z : Nat → Int32, z = upd f (42 + j) (-9) ∧ fq12 = nowO z := ⟨_, rfl, efq12.trans (nowO_ub (by omega))⟩
          refine g_iload_n C dX12_lays_55 rfl 0 rfl ?_
          exact g_iret C X dX12_lays_56 (⟨by rw [if_pos hok, hcl_j], by rw [if_pos (hok), if_pos (hok), if_pos (hok)]; rw [layF, hcl_j, hv, ewq13]⟩)
      · have hno : ¬ layO T p q := fun z => z.2.elim cq2 cq8
        refine g_iconst C ((-1)) dX12_lays_21 (by decide) ?_
        exact g_iret C X dX12_lays_22 (⟨by rw [if_neg hno], by rw [if_neg (hno), if_neg (hno), if_neg (hno)]⟩)

theorem imin0 : imin (nI 0) (nI 99) = nI 0 := by decide

set_option maxHeartbeats 4000000 in
set_option maxRecDepth 100000 in
theorem kX12_slips (l : Launch) (E : EX) (m0 x0 x1 x2 x3 x4 x5 x6 x7 x8 x9 n und nt : Nat) (tr : Int64) (Q : RS) (T : TS) (f : Nat → Int32) (un : Nat → Int32) (q : Int32) (hm : T.2.1 ≤ 6) (hu : und ≤ 10) : M l E yX12_slips wsX12_slips { frames := 2, cells := 0, slots := 0, locals := 46 } 0 0 [.ref m0, .int q] [(m0, oB 12 [.ref x0, .int (nI n), .int (nI Q.1), .int (nI Q.2.2.1), .int Q.2.1, .int Q.2.2.2, .ref x1, .ref x2, .ref x3, .ref x4, .int (nI und), .ref x5, .ref x6, .int (nI nt), .ref x7, .ref x8, .long tr, .ref x9]), (x2, iA E 21 (papO T)), (x3, iA E 50 (nowO f)), (x4, iA E 500 un)] (is1 (some (.int (if inR q T.2.1 then bc (thOn f q.toNatClampNeg 7) else (-1)))) [(m0, oB 12 [.ref x0, .int (nI n), .int (nI Q.1), .int (nI Q.2.2.1), .int Q.2.1, .int Q.2.2.2, .ref x1, .ref x2, .ref x3, .ref x4, .int (nI (if inR q T.2.1 then min (und + 1) 10 else und)), .ref x5, .ref x6, .int (nI nt), .ref x7, .ref x8, .long tr, .ref x9]), (x2, iA E 21 (papO T)), (x3, iA E 50 (nowO (if inR q T.2.1 then slipS f q.toNatClampNeg else f))), (x4, iA E 500 (if inR q T.2.1 then unK un f und else un))]) := by
  refine M.ofG (cc := cX12_slips) (maxL := 4) (ret := (some .int)) (lv := [(0, .ref m0), (1, .int q)]) (own := RX12) (by decide) rfl rfl (Nat.le_of_ble_eq_true rfl) rfl ?_
  intro K C X _
  have i12 : ∀ w ∈ wsX120, w ∈ wsX12_slips := by decide +kernel
  refine g_aload_n C dX12_slips_0 rfl 0 rfl ?_
  refine g_iload_n C dX12_slips_1 rfl 1 rfl ?_
  refine g_callV C (rest := []) (n := 1) (kX12_isPillow l E m0 x0 x1 x2 x3 x4 x5 x6 x7 x8 x9 n und nt tr Q T q (by omega)) gX12_slips_X12_isPillow rfl ⟨rfl, rfl⟩ (by decide) (Nat.le_of_ble_eq_true rfl) rfl (by decide +kernel) rfl dX12_slips_2 0 rfl rfl [0, 1] [2, 3] rfl rfl ?_
  refine g_is1 (ws2 := [(m0, oB 12 [.ref x0, .int (nI n), .int (nI Q.1), .int (nI Q.2.2.1), .int Q.2.1, .int Q.2.2.2, .ref x1, .ref x2, .ref x3, .ref x4, .int (nI und), .ref x5, .ref x6, .int (nI nt), .ref x7, .ref x8, .long tr, .ref x9]), (x2, iA E 21 (papO T)), (x3, iA E 50 (nowO f)), (x4, iA E 500 un)]) (st2 := [.int (bI (inR q T.2.1))]) [2, 3, 0, 1] rfl rfl rfl ?_
  refine g_if_neB C 10 dX12_slips_5 (by decide) (fun cq1 => ?_) (fun cq1 => ?_)
  · obtain ⟨j, hj_j, rfl⟩ := inR_of (n := T.2.1) (by omega) cq1
    have hcl_j : (nI j).toNatClampNeg = j := nI_clamp (by omega)
    refine g_aload_n C dX12_slips_10 rfl 0 rfl ?_
    refine g_callV C (rest := []) (n := 0) (kX12_keepsUndo l E m0 x0 x1 x2 x3 x4 x5 x6 x7 x8 x9 n und nt tr Q f un (by omega)) gX12_slips_X12_keepsUndo rfl ⟨rfl, rfl⟩ (by decide) (Nat.le_of_ble_eq_true rfl) rfl (by decide +kernel) rfl dX12_slips_11 0 rfl rfl [0, 2, 3] [1] rfl rfl ?_
    refine g_is1 (ws2 := [(m0, oB 12 [.ref x0, .int (nI n), .int (nI Q.1), .int (nI Q.2.2.1), .int Q.2.1, .int Q.2.2.2, .ref x1, .ref x2, .ref x3, .ref x4, .int (nI (min (und + 1) 10)), .ref x5, .ref x6, .int (nI nt), .ref x7, .ref x8, .long tr, .ref x9]), (x2, iA E 21 (papO T)), (x3, iA E 50 (nowO f)), (x4, iA E 500 (unK un f und))]) (st2 := []) [1, 0, 2, 3] rfl rfl rfl ?_
    refine g_aload_n C dX12_slips_14 rfl 0 rfl ?_
    refine g_iload_n C dX12_slips_15 rfl 1 rfl ?_
    refine g_callV C (rest := []) (n := 1) (kX12_hears l E m0 x0 x1 x2 x3 x4 x5 x6 x7 x8 x9 n (min (und + 1) 10) nt tr Q f j (by omega)) gX12_slips_X12_hears rfl ⟨rfl, rfl⟩ (by decide) (Nat.le_of_ble_eq_true rfl) rfl (by decide +kernel) rfl dX12_slips_16 0 rfl rfl [0, 2] [1, 3] rfl rfl ?_
    refine g_is1 (ws2 := [(m0, oB 12 [.ref x0, .int (nI n), .int (nI Q.1), .int (nI Q.2.2.1), .int Q.2.1, .int Q.2.2.2, .ref x1, .ref x2, .ref x3, .ref x4, .int (nI (min (und + 1) 10)), .ref x5, .ref x6, .int (nI nt), .ref x7, .ref x8, .long tr, .ref x9]), (x2, iA E 21 (papO T)), (x3, iA E 50 (nowO f)), (x4, iA E 500 (unK un f und))]) (st2 := [.int (thOn f j 7)]) [2, 0, 3, 1] rfl rfl rfl ?_
    refine g_callS C (rest := []) (n := 1) (kX12_many l E (thOn f j 7) (thOn_s7 f j)) gX12_slips_X12_many rfl ⟨rfl, rfl⟩ (by decide) (Nat.le_of_ble_eq_true rfl) rfl (by decide +kernel) rfl dX12_slips_19 [] [0, 1, 2, 3] rfl rfl ?_
    refine g_is1 (ws2 := [(m0, oB 12 [.ref x0, .int (nI n), .int (nI Q.1), .int (nI Q.2.2.1), .int Q.2.1, .int Q.2.2.2, .ref x1, .ref x2, .ref x3, .ref x4, .int (nI (min (und + 1) 10)), .ref x5, .ref x6, .int (nI nt), .ref x7, .ref x8, .long tr, .ref x9]), (x2, iA E 21 (papO T)), (x3, iA E 50 (nowO f)), (x4, iA E 500 (unK un f und))]) (st2 := [.int (bc (thOn f j 7))]) [0, 1, 2, 3] rfl rfl rfl ?_
    refine g_istore_n C (lv' := [(2, .int (bc (thOn f j 7))), (0, .ref m0), (1, .int (nI j))]) dX12_slips_22 rfl (by decide) rfl ?_
    refine g_iconst C (nI 0) dX12_slips_23 (by decide) ?_
    refine g_istore_n C (lv' := [(3, .int (nI 0)), (2, .int (bc (thOn f j 7))), (0, .ref m0), (1, .int (nI j))]) dX12_slips_24 rfl (by decide) rfl ?_
    have L25 : ∀ (zz k : Nat) (g : Nat → Int32), k + zz = 7 + 1 → k ≤ 7 → (g = slpA f j k) → G K 0 0 25 [(0, .ref m0), (1, .int (nI j)), (2, .int (bc (thOn f j 7))), (3, .int (nI k))] [] [(m0, oB 12 [.ref x0, .int (nI n), .int (nI Q.1), .int (nI Q.2.2.1), .int Q.2.1, .int Q.2.2.2, .ref x1, .ref x2, .ref x3, .ref x4, .int (nI (min (und + 1) 10)), .ref x5, .ref x6, .int (nI nt), .ref x7, .ref x8, .long tr, .ref x9]), (x2, iA E 21 (papO T)), (x3, iA E 50 (nowO g)), (x4, iA E 500 (unK un f und))] := by
      intro zz
      induction zz with
      | zero => intro k g hL25 gL25; exfalso; omega
      | succ zz ihL25 =>
        intro k g hL25 gL25 hg
        refine g_iload_n C dX12_slips_25 rfl 3 rfl ?_
        refine g_bipush C (nI 7) dX12_slips_26 (by decide) ?_
        refine g_icmp_geN C 52 dX12_slips_28 (by decide) (by omega) (by omega) (fun cq2 => ?_) (fun cq2 => ?_)
        · have hk : g = slpA f j 7 := by rw [hg, show k = 7 by omega]
          refine g_aload_n C dX12_slips_52 rfl 0 rfl ?_
          refine g_get C i12 0 rfl rfl 8 (by decide) (List.mem_of_getElem? (i := 1) rfl) rfl rfl dX12_slips_53 ?_
          refine g_iconst C (nI 1) dX12_slips_56 (by decide) ?_
          refine g_dup2 C dX12_slips_57 rfl rfl ?_
          refine g_iald C 2 rfl (by omega) (by decide) dX12_slips_58 ?_
          refine g_as (nowO_1 _) ?_
          refine g_iconst C (nI 1) dX12_slips_59 (by decide) ?_
          refine g_iload_n C dX12_slips_60 rfl 1 rfl ?_
          refine g_ishl1 C dX12_slips_61 (by omega) ?_
          refine g_iconst C ((-1)) dX12_slips_62 (by decide) ?_
          refine g_ixor C dX12_slips_63 ?_
          refine g_iand C dX12_slips_64 ?_
          refine g_iast C (ws' := fun fq3 => [(m0, oB 12 [.ref x0, .int (nI n), .int (nI Q.1), .int (nI Q.2.2.1), .int Q.2.1, .int Q.2.2.2, .ref x1, .ref x2, .ref x3, .ref x4, .int (nI (min (und + 1) 10)), .ref x5, .ref x6, .int (nI nt), .ref x7, .ref x8, .long tr, .ref x9]), (x2, iA E 21 (papO T)), (x3, iA E 50 fq3), (x4, iA E 500 (unK un f und))]) 2 rfl (by omega) (by decide) dX12_slips_65 (fun _ _ => rfl) (fun fq3 efq3 => ?_)
          obtain ⟨wq4, ewq4, rfl⟩ : ∃ z : Nat → Int32, z = upd g (48) ((g 48) &&& ((nI (2 ^ j)) ^^^ (-1))) ∧ fq3 = nowO z := ⟨_, rfl, efq3.trans (nowO_u1 _ _)⟩
          refine g_iload_n C dX12_slips_66 rfl 2 rfl ?_
          exact g_iret C X dX12_slips_67 (⟨by rw [if_pos cq1, hcl_j], by rw [if_pos (cq1), if_pos (cq1), if_pos (cq1)]; rw [hcl_j, slipS, ewq4, hk]⟩)
        · refine g_aload_n C dX12_slips_31 rfl 0 rfl ?_
          refine g_get C i12 0 rfl rfl 8 (by decide) (List.mem_of_getElem? (i := 1) rfl) rfl rfl dX12_slips_32 ?_
          refine g_bipush C (nI 8) dX12_slips_35 (by decide) ?_
          refine g_bipush C (nI 7) dX12_slips_37 (by decide) ?_
          refine g_iload_n C dX12_slips_39 rfl 1 rfl ?_
          refine g_imulN C dX12_slips_40 ?_
          refine g_iaddN C dX12_slips_41 ?_
          refine g_iload_n C dX12_slips_42 rfl 3 rfl ?_
          refine g_iaddN C dX12_slips_43 ?_
          refine g_iconst C (nI 0) dX12_slips_44 (by decide) ?_
          refine g_iast C (ws' := fun fq5 => [(m0, oB 12 [.ref x0, .int (nI n), .int (nI Q.1), .int (nI Q.2.2.1), .int Q.2.1, .int Q.2.2.2, .ref x1, .ref x2, .ref x3, .ref x4, .int (nI (min (und + 1) 10)), .ref x5, .ref x6, .int (nI nt), .ref x7, .ref x8, .long tr, .ref x9]), (x2, iA E 21 (papO T)), (x3, iA E 50 fq5), (x4, iA E 500 (unK un f und))]) 2 rfl (by omega) (by decide) dX12_slips_45 (fun _ _ => rfl) (fun fq5 efq5 => ?_)
          obtain ⟨wq6, ewq6, rfl⟩ : ∃ z : Nat → Int32, z = upd g (j * 7 + k) (nI 0) ∧ fq5 = nowO z := ⟨_, rfl, efq5.trans (nowO_uh (by omega) (by omega))⟩
          refine g_iincN C (lv' := [(3, .int (nI (k + 1))), (0, .ref m0), (1, .int (nI j)), (2, .int (bc (thOn f j 7)))]) dX12_slips_46 3 rfl (by decide) rfl ?_
          refine g_goto C 25 dX12_slips_49 (by decide) ?_
          refine g_sub (lv' := [(0, .ref m0), (1, .int (nI j)), (2, .int (bc (thOn f j 7))), (3, .int (nI (k + 1)))]) [1, 2, 3, 0] rfl ?_
          exact ihL25 (k + 1) wq6 (by omega) (by omega) (by rw [slpA, ← hg, ewq6, imin0])
    refine g_sub (lv' := [(0, .ref m0), (1, .int (nI j)), (2, .int (bc (thOn f j 7))), (3, .int (nI 0))]) [2, 3, 1, 0] rfl ?_
    exact L25 (7 + 1 - 0) 0 f (by omega) (by omega) (rfl)
  · refine g_iconst C ((-1)) dX12_slips_8 (by decide) ?_
    exact g_iret C X dX12_slips_9 (⟨by rw [if_neg cq1], by rw [if_neg (cq1), if_neg (cq1), if_neg (cq1)]⟩)

theorem imin_le {x : Int32} (h : x ≤ nI 99) : imin x (nI 99) = x := if_neg (Int32.not_lt.mpr h)
theorem imin_gt {x : Int32} (h : ¬ x ≤ nI 99) : imin x (nI 99) = nI 99 := if_pos (Int32.not_le.mp h)

set_option maxHeartbeats 4000000 in
set_option maxRecDepth 100000 in
theorem kX12_mixes (l : Launch) (E : EX) (m0 x0 x1 x2 x3 x4 x5 x6 x7 x8 x9 n und nt : Nat) (tr : Int64) (Q : RS) (T : TS) (f : Nat → Int32) (un : Nat → Int32) (a b : Int32) (hm : T.2.1 ≤ 6) (hu : und ≤ 10) : M l E yX12_mixes wsX12_mixes { frames := 2, cells := 0, slots := 0, locals := 46 } 0 0 [.ref m0, .int a, .int b] [(m0, oB 12 [.ref x0, .int (nI n), .int (nI Q.1), .int (nI Q.2.2.1), .int Q.2.1, .int Q.2.2.2, .ref x1, .ref x2, .ref x3, .ref x4, .int (nI und), .ref x5, .ref x6, .int (nI nt), .ref x7, .ref x8, .long tr, .ref x9]), (x2, iA E 21 (papO T)), (x3, iA E 50 (nowO f)), (x4, iA E 500 un)] (is1 (some (.int (if mixO T.2.1 a b then bc (thOn (mixA f a.toNatClampNeg b.toNatClampNeg 7) a.toNatClampNeg 7) else (-1)))) [(m0, oB 12 [.ref x0, .int (nI n), .int (nI Q.1), .int (nI Q.2.2.1), .int Q.2.1, .int Q.2.2.2, .ref x1, .ref x2, .ref x3, .ref x4, .int (nI (if mixO T.2.1 a b then min (und + 1) 10 else und)), .ref x5, .ref x6, .int (nI nt), .ref x7, .ref x8, .long tr, .ref x9]), (x2, iA E 21 (papO T)), (x3, iA E 50 (nowO (if mixO T.2.1 a b then mixA f a.toNatClampNeg b.toNatClampNeg 7 else f))), (x4, iA E 500 (if mixO T.2.1 a b then unK un f und else un))]) := by
  refine M.ofG (cc := cX12_mixes) (maxL := 5) (ret := (some .int)) (lv := [(0, .ref m0), (1, .int a), (2, .int b)]) (own := RX12) (by decide) rfl rfl (Nat.le_of_ble_eq_true rfl) rfl ?_
  intro K C X _
  have i12 : ∀ w ∈ wsX120, w ∈ wsX12_mixes := by decide +kernel
  refine g_aload_n C dX12_mixes_0 rfl 0 rfl ?_
  refine g_iload_n C dX12_mixes_1 rfl 1 rfl ?_
  refine g_callV C (rest := []) (n := 1) (kX12_isPillow l E m0 x0 x1 x2 x3 x4 x5 x6 x7 x8 x9 n und nt tr Q T a (by omega)) gX12_mixes_X12_isPillow rfl ⟨rfl, rfl⟩ (by decide) (Nat.le_of_ble_eq_true rfl) rfl (by decide +kernel) rfl dX12_mixes_2 0 rfl rfl [0, 1] [2, 3] rfl rfl ?_
  refine g_is1 (ws2 := [(m0, oB 12 [.ref x0, .int (nI n), .int (nI Q.1), .int (nI Q.2.2.1), .int Q.2.1, .int Q.2.2.2, .ref x1, .ref x2, .ref x3, .ref x4, .int (nI und), .ref x5, .ref x6, .int (nI nt), .ref x7, .ref x8, .long tr, .ref x9]), (x2, iA E 21 (papO T)), (x3, iA E 50 (nowO f)), (x4, iA E 500 un)]) (st2 := [.int (bI (inR a T.2.1))]) [2, 3, 0, 1] rfl rfl rfl ?_
  refine g_if_eqB C 21 dX12_mixes_5 (by decide) (fun cq1 => ?_) (fun cq1 => ?_)
  · have hno : ¬ mixO T.2.1 a b := fun z => cq1 z.1
    refine g_iconst C ((-1)) dX12_mixes_21 (by decide) ?_
    exact g_iret C X dX12_mixes_22 (⟨by rw [if_neg hno], by rw [if_neg (hno), if_neg (hno), if_neg (hno)]⟩)
  · refine g_aload_n C dX12_mixes_8 rfl 0 rfl ?_
    refine g_iload_n C dX12_mixes_9 rfl 2 rfl ?_
    refine g_callV C (rest := []) (n := 1) (kX12_isPillow l E m0 x0 x1 x2 x3 x4 x5 x6 x7 x8 x9 n und nt tr Q T b (by omega)) gX12_mixes_X12_isPillow rfl ⟨rfl, rfl⟩ (by decide) (Nat.le_of_ble_eq_true rfl) rfl (by decide +kernel) rfl dX12_mixes_10 0 rfl rfl [0, 1] [2, 3] rfl rfl ?_
    refine g_is1 (ws2 := [(m0, oB 12 [.ref x0, .int (nI n), .int (nI Q.1), .int (nI Q.2.2.1), .int Q.2.1, .int Q.2.2.2, .ref x1, .ref x2, .ref x3, .ref x4, .int (nI und), .ref x5, .ref x6, .int (nI nt), .ref x7, .ref x8, .long tr, .ref x9]), (x2, iA E 21 (papO T)), (x3, iA E 50 (nowO f)), (x4, iA E 500 un)]) (st2 := [.int (bI (inR b T.2.1))]) [2, 3, 0, 1] rfl rfl rfl ?_
    refine g_if_eqB C 21 dX12_mixes_13 (by decide) (fun cq2 => ?_) (fun cq2 => ?_)
    · have hno : ¬ mixO T.2.1 a b := fun z => cq2 z.2.1
      refine g_iconst C ((-1)) dX12_mixes_21 (by decide) ?_
      exact g_iret C X dX12_mixes_22 (⟨by rw [if_neg hno], by rw [if_neg (hno), if_neg (hno), if_neg (hno)]⟩)
    · refine g_iload_n C dX12_mixes_16 rfl 1 rfl ?_
      refine g_iload_n C dX12_mixes_17 rfl 2 rfl ?_
      refine g_icmp_ne C 23 dX12_mixes_18 (by decide) (fun cq3 => ?_) (fun cq3 => ?_)
      · have hok : mixO T.2.1 a b := ⟨cq1, cq2, cq3⟩
        obtain ⟨i, hj_i, rfl⟩ := inR_of (n := T.2.1) (by omega) cq1
        have hcl_i : (nI i).toNatClampNeg = i := nI_clamp (by omega)
        obtain ⟨j, hj_j, rfl⟩ := inR_of (n := T.2.1) (by omega) cq2
        have hcl_j : (nI j).toNatClampNeg = j := nI_clamp (by omega)
        refine g_aload_n C dX12_mixes_23 rfl 0 rfl ?_
        refine g_callV C (rest := []) (n := 0) (kX12_keepsUndo l E m0 x0 x1 x2 x3 x4 x5 x6 x7 x8 x9 n und nt tr Q f un (by omega)) gX12_mixes_X12_keepsUndo rfl ⟨rfl, rfl⟩ (by decide) (Nat.le_of_ble_eq_true rfl) rfl (by decide +kernel) rfl dX12_mixes_24 0 rfl rfl [0, 2, 3] [1] rfl rfl ?_
        refine g_is1 (ws2 := [(m0, oB 12 [.ref x0, .int (nI n), .int (nI Q.1), .int (nI Q.2.2.1), .int Q.2.1, .int Q.2.2.2, .ref x1, .ref x2, .ref x3, .ref x4, .int (nI (min (und + 1) 10)), .ref x5, .ref x6, .int (nI nt), .ref x7, .ref x8, .long tr, .ref x9]), (x2, iA E 21 (papO T)), (x3, iA E 50 (nowO f)), (x4, iA E 500 (unK un f und))]) (st2 := []) [1, 0, 2, 3] rfl rfl rfl ?_
        refine g_iconst C (nI 0) dX12_mixes_27 (by decide) ?_
        refine g_istore_n C (lv' := [(3, .int (nI 0)), (0, .ref m0), (1, .int (nI i)), (2, .int (nI j))]) dX12_mixes_28 rfl (by decide) rfl ?_
        have L29 : ∀ (zz k : Nat) (g : Nat → Int32), k + zz = 7 + 1 → k ≤ 7 → (g = mixA f i j k) → G K 0 0 29 [(0, .ref m0), (1, .int (nI i)), (2, .int (nI j)), (3, .int (nI k))] [] [(m0, oB 12 [.ref x0, .int (nI n), .int (nI Q.1), .int (nI Q.2.2.1), .int Q.2.1, .int Q.2.2.2, .ref x1, .ref x2, .ref x3, .ref x4, .int (nI (min (und + 1) 10)), .ref x5, .ref x6, .int (nI nt), .ref x7, .ref x8, .long tr, .ref x9]), (x2, iA E 21 (papO T)), (x3, iA E 50 (nowO g)), (x4, iA E 500 (unK un f und))] := by
          intro zz
          induction zz with
          | zero => intro k g hL29 gL29; exfalso; omega
          | succ zz ihL29 =>
            intro k g hL29 gL29 hg
            refine g_iload_n C dX12_mixes_29 rfl 3 rfl ?_
            refine g_bipush C (nI 7) dX12_mixes_30 (by decide) ?_
            refine g_icmp_geN C 104 dX12_mixes_32 (by decide) (by omega) (by omega) (fun cq4 => ?_) (fun cq4 => ?_)
            · have hk : g = mixA f i j 7 := by rw [hg, show k = 7 by omega]
              refine g_aload_n C dX12_mixes_104 rfl 0 rfl ?_
              refine g_iload_n C dX12_mixes_105 rfl 1 rfl ?_
              refine g_callV C (rest := []) (n := 1) (kX12_hears l E m0 x0 x1 x2 x3 x4 x5 x6 x7 x8 x9 n (min (und + 1) 10) nt tr Q g i (by omega)) gX12_mixes_X12_hears rfl ⟨rfl, rfl⟩ (by decide) (Nat.le_of_ble_eq_true rfl) rfl (by decide +kernel) rfl dX12_mixes_106 0 rfl rfl [0, 2] [1, 3] rfl rfl ?_
              refine g_is1 (ws2 := [(m0, oB 12 [.ref x0, .int (nI n), .int (nI Q.1), .int (nI Q.2.2.1), .int Q.2.1, .int Q.2.2.2, .ref x1, .ref x2, .ref x3, .ref x4, .int (nI (min (und + 1) 10)), .ref x5, .ref x6, .int (nI nt), .ref x7, .ref x8, .long tr, .ref x9]), (x2, iA E 21 (papO T)), (x3, iA E 50 (nowO g)), (x4, iA E 500 (unK un f und))]) (st2 := [.int (thOn g i 7)]) [2, 0, 3, 1] rfl rfl rfl ?_
              refine g_callS C (rest := []) (n := 1) (kX12_many l E (thOn g i 7) (thOn_s7 _ _)) gX12_mixes_X12_many rfl ⟨rfl, rfl⟩ (by decide) (Nat.le_of_ble_eq_true rfl) rfl (by decide +kernel) rfl dX12_mixes_109 [] [0, 1, 2, 3] rfl rfl ?_
              refine g_is1 (ws2 := [(m0, oB 12 [.ref x0, .int (nI n), .int (nI Q.1), .int (nI Q.2.2.1), .int Q.2.1, .int Q.2.2.2, .ref x1, .ref x2, .ref x3, .ref x4, .int (nI (min (und + 1) 10)), .ref x5, .ref x6, .int (nI nt), .ref x7, .ref x8, .long tr, .ref x9]), (x2, iA E 21 (papO T)), (x3, iA E 50 (nowO g)), (x4, iA E 500 (unK un f und))]) (st2 := [.int (bc (thOn g i 7))]) [0, 1, 2, 3] rfl rfl rfl ?_
              exact g_iret C X dX12_mixes_112 (⟨by rw [if_pos hok, hcl_i, hcl_j, hk], by rw [if_pos (hok), if_pos (hok), if_pos (hok)]; rw [hcl_i, hcl_j, hk]⟩)
            · refine g_aload_n C dX12_mixes_35 rfl 0 rfl ?_
              refine g_iload_n C dX12_mixes_36 rfl 1 rfl ?_
              refine g_iload_n C dX12_mixes_37 rfl 3 rfl ?_
              refine g_callV C (rest := []) (n := 2) (kX12_often l E m0 x0 x1 x2 x3 x4 x5 x6 x7 x8 x9 n (min (und + 1) 10) nt tr Q g i k (by omega) (by omega)) gX12_mixes_X12_often rfl ⟨rfl, rfl⟩ (by decide) (Nat.le_of_ble_eq_true rfl) rfl (by decide +kernel) rfl dX12_mixes_38 0 rfl rfl [0, 2] [1, 3] rfl rfl ?_
              refine g_is1 (ws2 := [(m0, oB 12 [.ref x0, .int (nI n), .int (nI Q.1), .int (nI Q.2.2.1), .int Q.2.1, .int Q.2.2.2, .ref x1, .ref x2, .ref x3, .ref x4, .int (nI (min (und + 1) 10)), .ref x5, .ref x6, .int (nI nt), .ref x7, .ref x8, .long tr, .ref x9]), (x2, iA E 21 (papO T)), (x3, iA E 50 (nowO g)), (x4, iA E 500 (unK un f und))]) (st2 := [.int (g (i * 7 + k))]) [2, 0, 3, 1] rfl rfl rfl ?_
              refine g_aload_n C dX12_mixes_41 rfl 0 rfl ?_
              refine g_iload_n C dX12_mixes_42 rfl 2 rfl ?_
              refine g_iload_n C dX12_mixes_43 rfl 3 rfl ?_
              refine g_callV C (rest := [.int (g (i * 7 + k))]) (n := 2) (kX12_often l E m0 x0 x1 x2 x3 x4 x5 x6 x7 x8 x9 n (min (und + 1) 10) nt tr Q g j k (by omega) (by omega)) gX12_mixes_X12_often rfl ⟨rfl, rfl⟩ (by decide) (Nat.le_of_ble_eq_true rfl) rfl (by decide +kernel) rfl dX12_mixes_44 0 rfl rfl [0, 2] [1, 3] rfl rfl ?_
              refine g_is1 (ws2 := [(m0, oB 12 [.ref x0, .int (nI n), .int (nI Q.1), .int (nI Q.2.2.1), .int Q.2.1, .int Q.2.2.2, .ref x1, .ref x2, .ref x3, .ref x4, .int (nI (min (und + 1) 10)), .ref x5, .ref x6, .int (nI nt), .ref x7, .ref x8, .long tr, .ref x9]), (x2, iA E 21 (papO T)), (x3, iA E 50 (nowO g)), (x4, iA E 500 (unK un f und))]) (st2 := [.int (g (j * 7 + k)), .int (g (i * 7 + k))]) [2, 0, 3, 1] rfl rfl rfl ?_
              refine g_iadd C dX12_mixes_47 ?_
              refine g_istore C (lv' := [(4, .int ((g (i * 7 + k)) + (g (j * 7 + k)))), (0, .ref m0), (1, .int (nI i)), (2, .int (nI j)), (3, .int (nI k))]) dX12_mixes_48 (by decide) rfl ?_
              refine g_iload C dX12_mixes_50 0 rfl ?_
              refine g_bipush C (nI 99) dX12_mixes_52 (by decide) ?_
              refine g_icmp_le C 62 dX12_mixes_54 (by decide) (fun cq5 => ?_) (fun cq5 => ?_)
              · have hm9 := imin_le cq5
                refine g_iload C dX12_mixes_62 0 rfl ?_
                refine g_istore C (lv' := [(4, .int ((g (i * 7 + k)) + (g (j * 7 + k)))), (0, .ref m0), (1, .int (nI i)), (2, .int (nI j)), (3, .int (nI k))]) dX12_mixes_64 (by decide) rfl ?_
                refine g_aload_n C dX12_mixes_66 rfl 1 rfl ?_
                refine g_get C i12 0 rfl rfl 8 (by decide) (List.mem_of_getElem? (i := 1) rfl) rfl rfl dX12_mixes_67 ?_
                refine g_bipush C (nI 8) dX12_mixes_70 (by decide) ?_
                refine g_bipush C (nI 7) dX12_mixes_72 (by decide) ?_
                refine g_iload_n C dX12_mixes_74 rfl 2 rfl ?_
                refine g_imulN C dX12_mixes_75 ?_
                refine g_iaddN C dX12_mixes_76 ?_
                refine g_iload_n C dX12_mixes_77 rfl 4 rfl ?_
                refine g_iaddN C dX12_mixes_78 ?_
                refine g_iload C dX12_mixes_79 0 rfl ?_
                refine g_iast C (ws' := fun fq6 => [(m0, oB 12 [.ref x0, .int (nI n), .int (nI Q.1), .int (nI Q.2.2.1), .int Q.2.1, .int Q.2.2.2, .ref x1, .ref x2, .ref x3, .ref x4, .int (nI (min (und + 1) 10)), .ref x5, .ref x6, .int (nI nt), .ref x7, .ref x8, .long tr, .ref x9]), (x2, iA E 21 (papO T)), (x3, iA E 50 fq6), (x4, iA E 500 (unK un f und))]) 2 rfl (by omega) (by decide) dX12_mixes_81 (fun _ _ => rfl) (fun fq6 efq6 => ?_)
                obtain ⟨wq7, ewq7, rfl⟩ : ∃ z : Nat → Int32, z = upd g (i * 7 + k) ((g (i * 7 + k)) + (g (j * 7 + k))) ∧ fq6 = nowO z := ⟨_, rfl, efq6.trans (nowO_uh (by omega) (by omega))⟩
                refine g_aload_n C dX12_mixes_82 rfl 1 rfl ?_
                refine g_get C i12 0 rfl rfl 8 (by decide) (List.mem_of_getElem? (i := 1) rfl) rfl rfl dX12_mixes_83 ?_
                refine g_bipush C (nI 8) dX12_mixes_86 (by decide) ?_
                refine g_bipush C (nI 7) dX12_mixes_88 (by decide) ?_
                refine g_iload_n C dX12_mixes_90 rfl 3 rfl ?_
                refine g_imulN C dX12_mixes_91 ?_
                refine g_iaddN C dX12_mixes_92 ?_
                refine g_iload_n C dX12_mixes_93 rfl 4 rfl ?_
                refine g_iaddN C dX12_mixes_94 ?_
                refine g_iload C dX12_mixes_95 0 rfl ?_
                refine g_iast C (ws' := fun fq8 => [(m0, oB 12 [.ref x0, .int (nI n), .int (nI Q.1), .int (nI Q.2.2.1), .int Q.2.1, .int Q.2.2.2, .ref x1, .ref x2, .ref x3, .ref x4, .int (nI (min (und + 1) 10)), .ref x5, .ref x6, .int (nI nt), .ref x7, .ref x8, .long tr, .ref x9]), (x2, iA E 21 (papO T)), (x3, iA E 50 fq8), (x4, iA E 500 (unK un f und))]) 2 rfl (by omega) (by decide) dX12_mixes_97 (fun _ _ => rfl) (fun fq8 efq8 => ?_)
                obtain ⟨wq9, ewq9, rfl⟩ : ∃ z : Nat → Int32, z = upd wq7 (j * 7 + k) ((g (i * 7 + k)) + (g (j * 7 + k))) ∧ fq8 = nowO z := ⟨_, rfl, efq8.trans (nowO_uh (by omega) (by omega))⟩
                refine g_iincN C (lv' := [(3, .int (nI (k + 1))), (4, .int ((g (i * 7 + k)) + (g (j * 7 + k)))), (0, .ref m0), (1, .int (nI i)), (2, .int (nI j))]) dX12_mixes_98 4 rfl (by decide) rfl ?_
                refine g_goto C 29 dX12_mixes_101 (by decide) ?_
                refine g_sub (lv' := [(0, .ref m0), (1, .int (nI i)), (2, .int (nI j)), (3, .int (nI (k + 1)))]) [2, 3, 4, 0] rfl ?_
                exact ihL29 (k + 1) wq9 (by omega) (by omega) (by rw [mixA, mixT, ← hg, hm9, ewq9, ewq7])
              · have hm9 := imin_gt cq5
                refine g_bipush C (nI 99) dX12_mixes_57 (by decide) ?_
                refine g_goto C 64 dX12_mixes_59 (by decide) ?_
                refine g_istore C (lv' := [(4, .int (nI 99)), (0, .ref m0), (1, .int (nI i)), (2, .int (nI j)), (3, .int (nI k))]) dX12_mixes_64 (by decide) rfl ?_
                refine g_aload_n C dX12_mixes_66 rfl 1 rfl ?_
                refine g_get C i12 0 rfl rfl 8 (by decide) (List.mem_of_getElem? (i := 1) rfl) rfl rfl dX12_mixes_67 ?_
                refine g_bipush C (nI 8) dX12_mixes_70 (by decide) ?_
                refine g_bipush C (nI 7) dX12_mixes_72 (by decide) ?_
                refine g_iload_n C dX12_mixes_74 rfl 2 rfl ?_
                refine g_imulN C dX12_mixes_75 ?_
                refine g_iaddN C dX12_mixes_76 ?_
                refine g_iload_n C dX12_mixes_77 rfl 4 rfl ?_
                refine g_iaddN C dX12_mixes_78 ?_
                refine g_iload C dX12_mixes_79 0 rfl ?_
                refine g_iast C (ws' := fun fq10 => [(m0, oB 12 [.ref x0, .int (nI n), .int (nI Q.1), .int (nI Q.2.2.1), .int Q.2.1, .int Q.2.2.2, .ref x1, .ref x2, .ref x3, .ref x4, .int (nI (min (und + 1) 10)), .ref x5, .ref x6, .int (nI nt), .ref x7, .ref x8, .long tr, .ref x9]), (x2, iA E 21 (papO T)), (x3, iA E 50 fq10), (x4, iA E 500 (unK un f und))]) 2 rfl (by omega) (by decide) dX12_mixes_81 (fun _ _ => rfl) (fun fq10 efq10 => ?_)
                obtain ⟨wq11, ewq11, rfl⟩ : ∃ z : Nat → Int32, z = upd g (i * 7 + k) (nI 99) ∧ fq10 = nowO z := ⟨_, rfl, efq10.trans (nowO_uh (by omega) (by omega))⟩
                refine g_aload_n C dX12_mixes_82 rfl 1 rfl ?_
                refine g_get C i12 0 rfl rfl 8 (by decide) (List.mem_of_getElem? (i := 1) rfl) rfl rfl dX12_mixes_83 ?_
                refine g_bipush C (nI 8) dX12_mixes_86 (by decide) ?_
                refine g_bipush C (nI 7) dX12_mixes_88 (by decide) ?_
                refine g_iload_n C dX12_mixes_90 rfl 3 rfl ?_
                refine g_imulN C dX12_mixes_91 ?_
                refine g_iaddN C dX12_mixes_92 ?_
                refine g_iload_n C dX12_mixes_93 rfl 4 rfl ?_
                refine g_iaddN C dX12_mixes_94 ?_
                refine g_iload C dX12_mixes_95 0 rfl ?_
                refine g_iast C (ws' := fun fq12 => [(m0, oB 12 [.ref x0, .int (nI n), .int (nI Q.1), .int (nI Q.2.2.1), .int Q.2.1, .int Q.2.2.2, .ref x1, .ref x2, .ref x3, .ref x4, .int (nI (min (und + 1) 10)), .ref x5, .ref x6, .int (nI nt), .ref x7, .ref x8, .long tr, .ref x9]), (x2, iA E 21 (papO T)), (x3, iA E 50 fq12), (x4, iA E 500 (unK un f und))]) 2 rfl (by omega) (by decide) dX12_mixes_97 (fun _ _ => rfl) (fun fq12 efq12 => ?_)
                obtain ⟨wq13, ewq13, rfl⟩ : ∃ z : Nat → Int32, z = upd wq11 (j * 7 + k) (nI 99) ∧ fq12 = nowO z := ⟨_, rfl, efq12.trans (nowO_uh (by omega) (by omega))⟩
                refine g_iincN C (lv' := [(3, .int (nI (k + 1))), (4, .int (nI 99)), (0, .ref m0), (1, .int (nI i)), (2, .int (nI j))]) dX12_mixes_98 4 rfl (by decide) rfl ?_
                refine g_goto C 29 dX12_mixes_101 (by decide) ?_
                refine g_sub (lv' := [(0, .ref m0), (1, .int (nI i)), (2, .int (nI j)), (3, .int (nI (k + 1)))]) [2, 3, 4, 0] rfl ?_
                exact ihL29 (k + 1) wq13 (by omega) (by omega) (by rw [mixA, mixT, ← hg, hm9, ewq13, ewq11])
        refine g_sub (lv' := [(0, .ref m0), (1, .int (nI i)), (2, .int (nI j)), (3, .int (nI 0))]) [1, 2, 3, 0] rfl ?_
        exact L29 (7 + 1 - 0) 0 f (by omega) (by omega) (rfl)
      · have hno : ¬ mixO T.2.1 a b := fun z => z.2.2 cq3
        refine g_iconst C ((-1)) dX12_mixes_21 (by decide) ?_
        exact g_iret C X dX12_mixes_22 (⟨by rw [if_neg hno], by rw [if_neg (hno), if_neg (hno), if_neg (hno)]⟩)

set_option maxHeartbeats 4000000 in
set_option maxRecDepth 100000 in
theorem kX12_undo (l : Launch) (E : EX) (m0 x0 x1 x2 x3 x4 x5 x6 x7 x8 x9 n und nt : Nat) (tr : Int64) (Q : RS) (f un : Nat → Int32) (hu : und ≤ 10) : M l E yX12_undo wsX12_undo { frames := 0, cells := 0, slots := 0, locals := 0 } 0 0 [.ref m0] [(m0, oB 12 [.ref x0, .int (nI n), .int (nI Q.1), .int (nI Q.2.2.1), .int Q.2.1, .int Q.2.2.2, .ref x1, .ref x2, .ref x3, .ref x4, .int (nI und), .ref x5, .ref x6, .int (nI nt), .ref x7, .ref x8, .long tr, .ref x9]), (x3, iA E 50 (nowO f)), (x4, iA E 500 un)] (is1 (some (.int (if und = 0 then (-2) else nI (und - 1)))) [(m0, oB 12 [.ref x0, .int (nI n), .int (nI Q.1), .int (nI Q.2.2.1), .int Q.2.1, .int Q.2.2.2, .ref x1, .ref x2, .ref x3, .ref x4, .int (nI (und - 1)), .ref x5, .ref x6, .int (nI nt), .ref x7, .ref x8, .long tr, .ref x9]), (x3, iA E 50 (if und = 0 then nowO f else cpA (fun i => un (50 * (und - 1) + i)) (nowO f) 50)), (x4, iA E 500 un)]) := by
  refine M.ofG (cc := cX12_undo) (maxL := 2) (ret := (some .int)) (lv := [(0, .ref m0)]) (own := RX12) (by decide) rfl rfl (Nat.le_of_ble_eq_true rfl) rfl ?_
  intro K C X _
  have i12 : ∀ w ∈ wsX120, w ∈ wsX12_undo := by decide +kernel
  refine g_aload_n C dX12_undo_0 rfl 0 rfl ?_
  refine g_get C i12 0 rfl rfl 10 (by decide) (List.mem_of_getElem? (i := 1) rfl) rfl rfl dX12_undo_1 ?_
  refine g_if_neN C 10 dX12_undo_4 (by decide) (by omega) (fun cq1 => ?_) (fun cq1 => ?_)
  · refine g_aload_n C dX12_undo_10 rfl 0 rfl ?_
    refine g_dup C dX12_undo_11 rfl ?_
    refine g_get C i12 0 rfl rfl 10 (by decide) (List.mem_of_getElem? (i := 1) rfl) rfl rfl dX12_undo_12 ?_
    refine g_iconst C (nI 1) dX12_undo_15 (by decide) ?_
    refine g_isubN C dX12_undo_16 (by omega) ?_
    refine g_put C i12 tyX12 tyX12_ok nmX12 0 rfl rfl 10 (by decide) (List.mem_of_getElem? (i := 1) rfl) rfl rfl rfl rfl rfl (Nat.le_of_ble_eq_true rfl) dX12_undo_17 (ws' := [(m0, oB 12 [.ref x0, .int (nI n), .int (nI Q.1), .int (nI Q.2.2.1), .int Q.2.1, .int Q.2.2.2, .ref x1, .ref x2, .ref x3, .ref x4, .int (nI (und - 1)), .ref x5, .ref x6, .int (nI nt), .ref x7, .ref x8, .long tr, .ref x9]), (x3, iA E 50 (nowO f)), (x4, iA E 500 un)]) rfl ?_
    refine g_iconst C (nI 0) dX12_undo_20 (by decide) ?_
    refine g_istore_n C (lv' := [(1, .int (nI 0)), (0, .ref m0)]) dX12_undo_21 rfl (by decide) rfl ?_
    have L22 : ∀ (zz k : Nat) (v : Nat → Int32), k + zz = 50 + 1 → k ≤ 50 → (v = cpA (fun i => un (50 * (und - 1) + i)) (nowO f) k) → G K 0 0 22 [(0, .ref m0), (1, .int (nI k))] [] [(m0, oB 12 [.ref x0, .int (nI n), .int (nI Q.1), .int (nI Q.2.2.1), .int Q.2.1, .int Q.2.2.2, .ref x1, .ref x2, .ref x3, .ref x4, .int (nI (und - 1)), .ref x5, .ref x6, .int (nI nt), .ref x7, .ref x8, .long tr, .ref x9]), (x3, iA E 50 v), (x4, iA E 500 un)] := by
      intro zz
      induction zz with
      | zero => intro k v hL22 gL22; exfalso; omega
      | succ zz ihL22 =>
        intro k v hL22 gL22 hv9
        refine g_iload_n C dX12_undo_22 rfl 1 rfl ?_
        refine g_bipush C (nI 50) dX12_undo_23 (by decide) ?_
        refine g_icmp_geN C 54 dX12_undo_25 (by decide) (by omega) (by omega) (fun cq2 => ?_) (fun cq2 => ?_)
        · refine g_aload_n C dX12_undo_54 rfl 0 rfl ?_
          refine g_get C i12 0 rfl rfl 10 (by decide) (List.mem_of_getElem? (i := 1) rfl) rfl rfl dX12_undo_55 ?_
          exact g_iret C X dX12_undo_58 (⟨by rw [if_neg cq1], by rw [if_neg cq1, hv9, show k = 50 by omega]⟩)
        · refine g_aload_n C dX12_undo_28 rfl 0 rfl ?_
          refine g_get C i12 0 rfl rfl 8 (by decide) (List.mem_of_getElem? (i := 2) rfl) rfl rfl dX12_undo_29 ?_
          refine g_iload_n C dX12_undo_32 rfl 1 rfl ?_
          refine g_aload_n C dX12_undo_33 rfl 0 rfl ?_
          refine g_get C i12 0 rfl rfl 9 (by decide) (List.mem_of_getElem? (i := 3) rfl) rfl rfl dX12_undo_34 ?_
          refine g_bipush C (nI 50) dX12_undo_37 (by decide) ?_
          refine g_aload_n C dX12_undo_39 rfl 0 rfl ?_
          refine g_get C i12 0 rfl rfl 10 (by decide) (List.mem_of_getElem? (i := 1) rfl) rfl rfl dX12_undo_40 ?_
          refine g_imulN C dX12_undo_43 ?_
          refine g_iload_n C dX12_undo_44 rfl 1 rfl ?_
          refine g_iaddN C dX12_undo_45 ?_
          refine g_iald C 2 rfl (by omega) (by decide) dX12_undo_46 ?_
          refine g_iast C (ws' := fun fq3 => [(m0, oB 12 [.ref x0, .int (nI n), .int (nI Q.1), .int (nI Q.2.2.1), .int Q.2.1, .int Q.2.2.2, .ref x1, .ref x2, .ref x3, .ref x4, .int (nI (und - 1)), .ref x5, .ref x6, .int (nI nt), .ref x7, .ref x8, .long tr, .ref x9]), (x3, iA E 50 fq3), (x4, iA E 500 un)]) 1 rfl (by omega) (by decide) dX12_undo_47 (fun _ _ => rfl) (fun fq3 efq3 => ?_)
          refine g_iincN C (lv' := [(1, .int (nI (k + 1))), (0, .ref m0)]) dX12_undo_48 1 rfl (by decide) rfl ?_
          refine g_goto C 22 dX12_undo_51 (by decide) ?_
          refine g_sub (lv' := [(0, .ref m0), (1, .int (nI (k + 1)))]) [1, 0] rfl ?_
          exact ihL22 (k + 1) fq3 (by omega) (by omega) (by rw [efq3, hv9]; exact cpA_s (fun i => un (50 * (und - 1) + i)) (nowO f) k)
    refine g_sub (lv' := [(0, .ref m0), (1, .int (nI 0))]) [1, 0] rfl ?_
    exact L22 (50 + 1 - 0) 0 (nowO f) (by omega) (by omega) ((cpA_0 _ _).symm)
  · refine g_bipush C ((-2)) dX12_undo_7 (by decide) ?_
    exact g_iret C X dX12_undo_9 (⟨by rw [if_pos cq1], by rw [if_pos cq1, show und - 1 = und by omega]⟩)
