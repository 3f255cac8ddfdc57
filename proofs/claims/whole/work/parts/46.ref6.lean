/-! the reference: notes, images, kinds, examines -/
def noN (no : Nat → Int32) (nt : Nat) (q t x : Int32) : Nat → Int32 := upd (upd (upd no (3 * nt) q) (3 * nt + 1) t) (3 * nt + 2) x
def keN (ke f : Nat → Int32) (j : Nat) : Nat → Int32 := cpU (upd ke (51 * j) (nI 1)) (nowO f) (51 * j + 1) 50

set_option maxHeartbeats 4000000 in
set_option maxRecDepth 100000 in
theorem kX12_notes (l : Launch) (E : EX) (m0 x0 x1 x2 x3 x4 x5 x6 x7 x8 x9 n und nt : Nat) (tr : Int64) (Q : RS) (T : TS) (no : Nat → Int32) (q t x : Int32) (hm : T.2.1 ≤ 6) (hnt : nt ≤ 5) : M l E yX12_notes wsX12_notes { frames := 2, cells := 0, slots := 0, locals := 46 } 0 0 [.ref m0, .int q, .int t, .int x] [(m0, oB 12 [.ref x0, .int (nI n), .int (nI Q.1), .int (nI Q.2.2.1), .int Q.2.1, .int Q.2.2.2, .ref x1, .ref x2, .ref x3, .ref x4, .int (nI und), .ref x5, .ref x6, .int (nI nt), .ref x7, .ref x8, .long tr, .ref x9]), (x2, iA E 21 (papO T)), (x7, iA E 15 no)] (is1 (some (.int (ntS T.2.1 nt q t x))) [(m0, oB 12 [.ref x0, .int (nI n), .int (nI Q.1), .int (nI Q.2.2.1), .int Q.2.1, .int Q.2.2.2, .ref x1, .ref x2, .ref x3, .ref x4, .int (nI und), .ref x5, .ref x6, .int (nI (if ntO T.2.1 nt q t x then nt + 1 else nt)), .ref x7, .ref x8, .long tr, .ref x9]), (x2, iA E 21 (papO T)), (x7, iA E 15 (if ntO T.2.1 nt q t x then noN no nt q t x else no))]) := by
  refine M.ofG (cc := cX12_notes) (maxL := 4) (ret := (some .int)) (lv := [(0, .ref m0), (1, .int q), (2, .int t), (3, .int x)]) (own := RX12) (by decide) rfl rfl (Nat.le_of_ble_eq_true rfl) rfl ?_
  intro K C X _
  have i12 : ∀ w ∈ wsX120, w ∈ wsX12_notes := by decide +kernel
  refine g_aload_n C dX12_notes_0 rfl 0 rfl ?_
  refine g_iload_n C dX12_notes_1 rfl 1 rfl ?_
  refine g_callV C (rest := []) (n := 1) (kX12_isPillow l E m0 x0 x1 x2 x3 x4 x5 x6 x7 x8 x9 n und nt tr Q T q (by omega)) gX12_notes_X12_isPillow rfl ⟨rfl, rfl⟩ (by decide) (Nat.le_of_ble_eq_true rfl) rfl (by decide +kernel) rfl dX12_notes_2 0 rfl rfl [0, 1] [2] rfl rfl ?_
  refine g_is1 (ws2 := [(m0, oB 12 [.ref x0, .int (nI n), .int (nI Q.1), .int (nI Q.2.2.1), .int Q.2.1, .int Q.2.2.2, .ref x1, .ref x2, .ref x3, .ref x4, .int (nI und), .ref x5, .ref x6, .int (nI nt), .ref x7, .ref x8, .long tr, .ref x9]), (x2, iA E 21 (papO T)), (x7, iA E 15 no)]) (st2 := [.int (bI (inR q T.2.1))]) [1, 2, 0] rfl rfl rfl ?_
  refine g_if_eqB C 25 dX12_notes_5 (by decide) (fun cq1 => ?_) (fun cq1 => ?_)
  · have hno : ¬ (inR q T.2.1 ∧ inR t 7 ∧ zo x) := fun w => cq1 w.1
    refine g_iconst C ((-1)) dX12_notes_25 (by decide) ?_
    exact g_iret C X dX12_notes_26 (⟨by unfold ntS; rw [if_neg hno], by rw [if_neg (fun w => hno ⟨w.1, w.2.1, w.2.2.1⟩), if_neg (fun w => hno ⟨w.1, w.2.1, w.2.2.1⟩)]⟩)
  · refine g_iload_n C dX12_notes_8 rfl 2 rfl ?_
    refine g_callS C (rest := []) (n := 1) (kX12_isThing l E t ) gX12_notes_X12_isThing rfl ⟨rfl, rfl⟩ (by decide) (Nat.le_of_ble_eq_true rfl) rfl (by decide +kernel) rfl dX12_notes_9 [] [0, 1, 2] rfl rfl ?_
    refine g_is1 (ws2 := [(m0, oB 12 [.ref x0, .int (nI n), .int (nI Q.1), .int (nI Q.2.2.1), .int Q.2.1, .int Q.2.2.2, .ref x1, .ref x2, .ref x3, .ref x4, .int (nI und), .ref x5, .ref x6, .int (nI nt), .ref x7, .ref x8, .long tr, .ref x9]), (x2, iA E 21 (papO T)), (x7, iA E 15 no)]) (st2 := [.int (bI (inR t 7))]) [0, 1, 2] rfl rfl rfl ?_
    refine g_if_eqB C 25 dX12_notes_12 (by decide) (fun cq2 => ?_) (fun cq2 => ?_)
    · have hno : ¬ (inR q T.2.1 ∧ inR t 7 ∧ zo x) := fun w => cq2 w.2.1
      refine g_iconst C ((-1)) dX12_notes_25 (by decide) ?_
      exact g_iret C X dX12_notes_26 (⟨by unfold ntS; rw [if_neg hno], by rw [if_neg (fun w => hno ⟨w.1, w.2.1, w.2.2.1⟩), if_neg (fun w => hno ⟨w.1, w.2.1, w.2.2.1⟩)]⟩)
    · refine g_iload_n C dX12_notes_15 rfl 3 rfl ?_
      refine g_i2l C dX12_notes_16 ?_
      refine g_lconst C 0 dX12_notes_17 rfl ?_
      refine g_lconst C 1 dX12_notes_18 rfl ?_
      refine g_callS C (rest := []) (n := 3) (kX12_in_zo l E x ) gX12_notes_X12_in rfl ⟨rfl, rfl⟩ (by decide) (Nat.le_of_ble_eq_true rfl) rfl (by decide +kernel) rfl dX12_notes_19 [] [0, 1, 2] rfl rfl ?_
      refine g_is1 (ws2 := [(m0, oB 12 [.ref x0, .int (nI n), .int (nI Q.1), .int (nI Q.2.2.1), .int Q.2.1, .int Q.2.2.2, .ref x1, .ref x2, .ref x3, .ref x4, .int (nI und), .ref x5, .ref x6, .int (nI nt), .ref x7, .ref x8, .long tr, .ref x9]), (x2, iA E 21 (papO T)), (x7, iA E 15 no)]) (st2 := [.int (bI (zo x))]) [0, 1, 2] rfl rfl rfl ?_
      refine g_if_neB C 27 dX12_notes_22 (by decide) (fun cq3 => ?_) (fun cq3 => ?_)
      · have hy : inR q T.2.1 ∧ inR t 7 ∧ zo x := ⟨cq1, cq2, cq3⟩
        refine g_aload_n C dX12_notes_27 rfl 0 rfl ?_
        refine g_get C i12 0 rfl rfl 13 (by decide) (List.mem_of_getElem? (i := 1) rfl) rfl rfl dX12_notes_28 ?_
        refine g_iconst C (nI 5) dX12_notes_31 (by decide) ?_
        refine g_icmp_neN C 38 dX12_notes_32 (by decide) (by omega) (by omega) (fun cq4 => ?_) (fun cq4 => ?_)
        · refine g_aload_n C dX12_notes_38 rfl 0 rfl ?_
          refine g_get C i12 0 rfl rfl 14 (by decide) (List.mem_of_getElem? (i := 2) rfl) rfl rfl dX12_notes_39 ?_
          refine g_iconst C (nI 3) dX12_notes_42 (by decide) ?_
          refine g_aload_n C dX12_notes_43 rfl 0 rfl ?_
          refine g_get C i12 0 rfl rfl 13 (by decide) (List.mem_of_getElem? (i := 1) rfl) rfl rfl dX12_notes_44 ?_
          refine g_imulN C dX12_notes_47 ?_
          refine g_iload_n C dX12_notes_48 rfl 1 rfl ?_
          refine g_iast C (ws' := fun fq5 => [(m0, oB 12 [.ref x0, .int (nI n), .int (nI Q.1), .int (nI Q.2.2.1), .int Q.2.1, .int Q.2.2.2, .ref x1, .ref x2, .ref x3, .ref x4, .int (nI und), .ref x5, .ref x6, .int (nI nt), .ref x7, .ref x8, .long tr, .ref x9]), (x2, iA E 21 (papO T)), (x7, iA E 15 fq5)]) 2 rfl (by omega) (by decide) dX12_notes_49 (fun _ _ => rfl) (fun fq5 efq5 => ?_)
          refine g_aload_n C dX12_notes_50 rfl 0 rfl ?_
          refine g_get C i12 0 rfl rfl 14 (by decide) (List.mem_of_getElem? (i := 2) rfl) rfl rfl dX12_notes_51 ?_
          refine g_iconst C (nI 3) dX12_notes_54 (by decide) ?_
          refine g_aload_n C dX12_notes_55 rfl 0 rfl ?_
          refine g_get C i12 0 rfl rfl 13 (by decide) (List.mem_of_getElem? (i := 1) rfl) rfl rfl dX12_notes_56 ?_
          refine g_imulN C dX12_notes_59 ?_
          refine g_iconst C (nI 1) dX12_notes_60 (by decide) ?_
          refine g_iaddN C dX12_notes_61 ?_
          refine g_iload_n C dX12_notes_62 rfl 2 rfl ?_
          refine g_iast C (ws' := fun fq6 => [(m0, oB 12 [.ref x0, .int (nI n), .int (nI Q.1), .int (nI Q.2.2.1), .int Q.2.1, .int Q.2.2.2, .ref x1, .ref x2, .ref x3, .ref x4, .int (nI und), .ref x5, .ref x6, .int (nI nt), .ref x7, .ref x8, .long tr, .ref x9]), (x2, iA E 21 (papO T)), (x7, iA E 15 fq6)]) 2 rfl (by omega) (by decide) dX12_notes_63 (fun _ _ => rfl) (fun fq6 efq6 => ?_)
          refine g_aload_n C dX12_notes_64 rfl 0 rfl ?_
          refine g_get C i12 0 rfl rfl 14 (by decide) (List.mem_of_getElem? (i := 2) rfl) rfl rfl dX12_notes_65 ?_
          refine g_iconst C (nI 3) dX12_notes_68 (by decide) ?_
          refine g_aload_n C dX12_notes_69 rfl 0 rfl ?_
          refine g_get C i12 0 rfl rfl 13 (by decide) (List.mem_of_getElem? (i := 1) rfl) rfl rfl dX12_notes_70 ?_
          refine g_imulN C dX12_notes_73 ?_
          refine g_iconst C (nI 2) dX12_notes_74 (by decide) ?_
          refine g_iaddN C dX12_notes_75 ?_
          refine g_iload_n C dX12_notes_76 rfl 3 rfl ?_
          refine g_iast C (ws' := fun fq7 => [(m0, oB 12 [.ref x0, .int (nI n), .int (nI Q.1), .int (nI Q.2.2.1), .int Q.2.1, .int Q.2.2.2, .ref x1, .ref x2, .ref x3, .ref x4, .int (nI und), .ref x5, .ref x6, .int (nI nt), .ref x7, .ref x8, .long tr, .ref x9]), (x2, iA E 21 (papO T)), (x7, iA E 15 fq7)]) 2 rfl (by omega) (by decide) dX12_notes_77 (fun _ _ => rfl) (fun fq7 efq7 => ?_)
          refine g_aload_n C dX12_notes_78 rfl 0 rfl ?_
          refine g_dup C dX12_notes_79 rfl ?_
          refine g_get C i12 0 rfl rfl 13 (by decide) (List.mem_of_getElem? (i := 1) rfl) rfl rfl dX12_notes_80 ?_
          refine g_iconst C (nI 1) dX12_notes_83 (by decide) ?_
          refine g_iaddN C dX12_notes_84 ?_
          refine g_put C i12 tyX12 tyX12_ok nmX12 0 rfl rfl 13 (by decide) (List.mem_of_getElem? (i := 1) rfl) rfl rfl rfl rfl rfl (Nat.le_of_ble_eq_true rfl) dX12_notes_85 (ws' := [(m0, oB 12 [.ref x0, .int (nI n), .int (nI Q.1), .int (nI Q.2.2.1), .int Q.2.1, .int Q.2.2.2, .ref x1, .ref x2, .ref x3, .ref x4, .int (nI und), .ref x5, .ref x6, .int (nI (nt + 1)), .ref x7, .ref x8, .long tr, .ref x9]), (x2, iA E 21 (papO T)), (x7, iA E 15 fq7)]) rfl ?_
          refine g_aload_n C dX12_notes_88 rfl 0 rfl ?_
          refine g_get C i12 0 rfl rfl 13 (by decide) (List.mem_of_getElem? (i := 1) rfl) rfl rfl dX12_notes_89 ?_
          exact g_iret C X dX12_notes_92 (⟨by unfold ntS; rw [if_pos hy, if_pos (by omega)], by rw [if_pos ⟨hy.1, hy.2.1, hy.2.2, by omega⟩, if_pos ⟨hy.1, hy.2.1, hy.2.2, by omega⟩, efq7, efq6, efq5, noN]⟩)
        · refine g_bipush C ((-3)) dX12_notes_35 (by decide) ?_
          exact g_iret C X dX12_notes_37 (⟨by unfold ntS; rw [if_pos hy, if_neg (by omega)], by rw [if_neg (fun w => absurd w.2.2.2 (by omega)), if_neg (fun w => absurd w.2.2.2 (by omega))]⟩)
      · have hno : ¬ (inR q T.2.1 ∧ inR t 7 ∧ zo x) := fun w => cq3 w.2.2
        refine g_iconst C ((-1)) dX12_notes_25 (by decide) ?_
        exact g_iret C X dX12_notes_26 (⟨by unfold ntS; rw [if_neg hno], by rw [if_neg (fun w => hno ⟨w.1, w.2.1, w.2.2.1⟩), if_neg (fun w => hno ⟨w.1, w.2.1, w.2.2.1⟩)]⟩)

set_option maxHeartbeats 4000000 in
set_option maxRecDepth 100000 in
theorem kX12_forget (l : Launch) (E : EX) (m0 x0 x1 x2 x3 x4 x5 x6 x7 x8 x9 n und nt : Nat) (tr : Int64) (Q : RS)  : M l E yX12_forget wsX12_forget { frames := 0, cells := 0, slots := 0, locals := 0 } 0 0 [.ref m0] [(m0, oB 12 [.ref x0, .int (nI n), .int (nI Q.1), .int (nI Q.2.2.1), .int Q.2.1, .int Q.2.2.2, .ref x1, .ref x2, .ref x3, .ref x4, .int (nI und), .ref x5, .ref x6, .int (nI nt), .ref x7, .ref x8, .long tr, .ref x9])] (is1 (some (.int (nI nt))) [(m0, oB 12 [.ref x0, .int (nI n), .int (nI Q.1), .int (nI Q.2.2.1), .int Q.2.1, .int Q.2.2.2, .ref x1, .ref x2, .ref x3, .ref x4, .int (nI und), .ref x5, .ref x6, .int (nI 0), .ref x7, .ref x8, .long tr, .ref x9])]) := by
  refine M.ofG (cc := cX12_forget) (maxL := 2) (ret := (some .int)) (lv := [(0, .ref m0)]) (own := RX12) (by decide) rfl rfl (Nat.le_of_ble_eq_true rfl) rfl ?_
  intro K C X _
  have i12 : ∀ w ∈ wsX120, w ∈ wsX12_forget := by decide +kernel
  refine g_aload_n C dX12_forget_0 rfl 0 rfl ?_
  refine g_get C i12 0 rfl rfl 13 (by decide) (List.mem_of_getElem? (i := 1) rfl) rfl rfl dX12_forget_1 ?_
  refine g_istore_n C (lv' := [(1, .int (nI nt)), (0, .ref m0)]) dX12_forget_4 rfl (by decide) rfl ?_
  refine g_aload_n C dX12_forget_5 rfl 1 rfl ?_
  refine g_iconst C (nI 0) dX12_forget_6 (by decide) ?_
  refine g_put C i12 tyX12 tyX12_ok nmX12 0 rfl rfl 13 (by decide) (List.mem_of_getElem? (i := 1) rfl) rfl rfl rfl rfl rfl (Nat.le_of_ble_eq_true rfl) dX12_forget_7 (ws' := [(m0, oB 12 [.ref x0, .int (nI n), .int (nI Q.1), .int (nI Q.2.2.1), .int Q.2.1, .int Q.2.2.2, .ref x1, .ref x2, .ref x3, .ref x4, .int (nI und), .ref x5, .ref x6, .int (nI 0), .ref x7, .ref x8, .long tr, .ref x9])]) rfl ?_
  refine g_iload_n C dX12_forget_10 rfl 0 rfl ?_
  exact g_iret C X dX12_forget_11 (⟨rfl, rfl⟩)

set_option maxHeartbeats 4000000 in
set_option maxRecDepth 100000 in
theorem kX12_trace (l : Launch) (E : EX) (m0 x0 x1 x2 x3 x4 x5 x6 x7 x8 x9 n und nt : Nat) (tr : Int64) (Q : RS)  : M l E yX12_trace wsX12_trace { frames := 0, cells := 0, slots := 0, locals := 0 } 0 0 [.ref m0] [(m0, oB 12 [.ref x0, .int (nI n), .int (nI Q.1), .int (nI Q.2.2.1), .int Q.2.1, .int Q.2.2.2, .ref x1, .ref x2, .ref x3, .ref x4, .int (nI und), .ref x5, .ref x6, .int (nI nt), .ref x7, .ref x8, .long tr, .ref x9])] (is1 (some (.long tr)) [(m0, oB 12 [.ref x0, .int (nI n), .int (nI Q.1), .int (nI Q.2.2.1), .int Q.2.1, .int Q.2.2.2, .ref x1, .ref x2, .ref x3, .ref x4, .int (nI und), .ref x5, .ref x6, .int (nI nt), .ref x7, .ref x8, .long tr, .ref x9])]) := by
  refine M.ofG (cc := cX12_trace) (maxL := 1) (ret := (some .long)) (lv := [(0, .ref m0)]) (own := RX12) (by decide) rfl rfl (Nat.le_of_ble_eq_true rfl) rfl ?_
  intro K C X _
  have i12 : ∀ w ∈ wsX120, w ∈ wsX12_trace := by decide +kernel
  refine g_aload_n C dX12_trace_0 rfl 0 rfl ?_
  refine g_get C i12 0 rfl rfl 16 (by decide) (List.mem_of_getElem? (i := 1) rfl) rfl rfl dX12_trace_1 ?_
  exact g_lret C X dX12_trace_4 (⟨rfl, rfl⟩)

set_option maxHeartbeats 4000000 in
set_option maxRecDepth 100000 in
theorem kX12_count (l : Launch) (E : EX) (m0 x0 x1 x2 x3 x4 x5 x6 x7 x8 x9 n und nt : Nat) (tr : Int64) (Q : RS) (T : TS) (what : Int32)  : M l E yX12_count wsX12_count { frames := 0, cells := 0, slots := 0, locals := 0 } 0 0 [.ref m0, .int what] [(m0, oB 12 [.ref x0, .int (nI n), .int (nI Q.1), .int (nI Q.2.2.1), .int Q.2.1, .int Q.2.2.2, .ref x1, .ref x2, .ref x3, .ref x4, .int (nI und), .ref x5, .ref x6, .int (nI nt), .ref x7, .ref x8, .long tr, .ref x9]), (x2, iA E 21 (papO T))] (is1 (some (.int (cntS T nt n what))) [(m0, oB 12 [.ref x0, .int (nI n), .int (nI Q.1), .int (nI Q.2.2.1), .int Q.2.1, .int Q.2.2.2, .ref x1, .ref x2, .ref x3, .ref x4, .int (nI und), .ref x5, .ref x6, .int (nI nt), .ref x7, .ref x8, .long tr, .ref x9]), (x2, iA E 21 (papO T))]) := by
  refine M.ofG (cc := cX12_count) (maxL := 2) (ret := (some .int)) (lv := [(0, .ref m0), (1, .int what)]) (own := RX12) (by decide) rfl rfl (Nat.le_of_ble_eq_true rfl) rfl ?_
  intro K C X _
  have i12 : ∀ w ∈ wsX120, w ∈ wsX12_count := by decide +kernel
  refine g_iload_n C dX12_count_0 rfl 1 rfl ?_
  by_cases cq1 : what = nI 0
  · refine g_tableIn C 32 dX12_count_1 (by rw [cq1]; decide) (by rw [cq1]; decide) (off := 31) (by rw [cq1]; rfl) (by decide) ?_
    obtain rfl := cq1
    refine g_aload_n C dX12_count_32 rfl 0 rfl ?_
    refine g_get C i12 0 rfl rfl 7 (by decide) (List.mem_of_getElem? (i := 1) rfl) rfl rfl dX12_count_33 ?_
    refine g_iload_n C dX12_count_36 rfl 1 rfl ?_
    refine g_iald C 1 rfl (by omega) (by decide) dX12_count_37 ?_
    refine g_as (papO_0 _) ?_
    exact g_iret C X dX12_count_38 (⟨by unfold cntS; rw [if_pos rfl], rfl⟩)
  by_cases cq2 : what = nI 1
  · refine g_tableIn C 32 dX12_count_1 (by rw [cq2]; decide) (by rw [cq2]; decide) (off := 31) (by rw [cq2]; rfl) (by decide) ?_
    obtain rfl := cq2
    refine g_aload_n C dX12_count_32 rfl 0 rfl ?_
    refine g_get C i12 0 rfl rfl 7 (by decide) (List.mem_of_getElem? (i := 1) rfl) rfl rfl dX12_count_33 ?_
    refine g_iload_n C dX12_count_36 rfl 1 rfl ?_
    refine g_iald C 1 rfl (by omega) (by decide) dX12_count_37 ?_
    refine g_as (papO_1 _) ?_
    exact g_iret C X dX12_count_38 (⟨by unfold cntS; rw [if_neg cq1, if_pos rfl], rfl⟩)
  by_cases cq3 : what = nI 2
  · refine g_tableIn C 39 dX12_count_1 (by rw [cq3]; decide) (by rw [cq3]; decide) (off := 38) (by rw [cq3]; rfl) (by decide) ?_
    refine g_aload_n C dX12_count_39 rfl 0 rfl ?_
    refine g_get C i12 0 rfl rfl 13 (by decide) (List.mem_of_getElem? (i := 2) rfl) rfl rfl dX12_count_40 ?_
    exact g_iret C X dX12_count_43 (⟨by unfold cntS; rw [if_neg cq1, if_neg cq2, if_pos cq3], rfl⟩)
  by_cases cq4 : what = nI 3
  · refine g_tableIn C 44 dX12_count_1 (by rw [cq4]; decide) (by rw [cq4]; decide) (off := 43) (by rw [cq4]; rfl) (by decide) ?_
    refine g_aload_n C dX12_count_44 rfl 0 rfl ?_
    refine g_get C i12 0 rfl rfl 1 (by decide) (List.mem_of_getElem? (i := 3) rfl) rfl rfl dX12_count_45 ?_
    exact g_iret C X dX12_count_48 (⟨by unfold cntS; rw [if_neg cq1, if_neg cq2, if_neg cq3, if_pos cq4], rfl⟩)
  refine g_tableOut C 49 dX12_count_1 (ts_out4 cq1 cq2 cq3 cq4) (by decide) ?_
  refine g_iconst C ((-1)) dX12_count_49 (by decide) ?_
  exact g_iret C X dX12_count_50 (⟨by unfold cntS; rw [if_neg cq1, if_neg cq2, if_neg cq3, if_neg cq4], rfl⟩)

set_option maxHeartbeats 4000000 in
set_option maxRecDepth 100000 in
theorem kX12_keep (l : Launch) (E : EX) (m0 x0 x1 x2 x3 x4 x5 x6 x7 x8 x9 n und nt : Nat) (tr : Int64) (Q : RS) (f ke : Nat → Int32) (x : Int32)  : M l E yX12_keep wsX12_keep { frames := 1, cells := 0, slots := 0, locals := 25 } 0 0 [.ref m0, .int x] [(m0, oB 12 [.ref x0, .int (nI n), .int (nI Q.1), .int (nI Q.2.2.1), .int Q.2.1, .int Q.2.2.2, .ref x1, .ref x2, .ref x3, .ref x4, .int (nI und), .ref x5, .ref x6, .int (nI nt), .ref x7, .ref x8, .long tr, .ref x9]), (x3, iA E 50 (nowO f)), (x9, iA E 102 ke)] (is1 (some (.int (if zo x then f 49 else (-1)))) [(m0, oB 12 [.ref x0, .int (nI n), .int (nI Q.1), .int (nI Q.2.2.1), .int Q.2.1, .int Q.2.2.2, .ref x1, .ref x2, .ref x3, .ref x4, .int (nI und), .ref x5, .ref x6, .int (nI nt), .ref x7, .ref x8, .long tr, .ref x9]), (x3, iA E 50 (nowO f)), (x9, iA E 102 (if zo x then keN ke f x.toNatClampNeg else ke))]) := by
  refine M.ofG (cc := cX12_keep) (maxL := 3) (ret := (some .int)) (lv := [(0, .ref m0), (1, .int x)]) (own := RX12) (by decide) rfl rfl (Nat.le_of_ble_eq_true rfl) rfl ?_
  intro K C X _
  have i12 : ∀ w ∈ wsX120, w ∈ wsX12_keep := by decide +kernel
  refine g_iload_n C dX12_keep_0 rfl 1 rfl ?_
  refine g_i2l C dX12_keep_1 ?_
  refine g_lconst C 0 dX12_keep_2 rfl ?_
  refine g_lconst C 1 dX12_keep_3 rfl ?_
  refine g_callS C (rest := []) (n := 3) (kX12_in_zo l E x ) gX12_keep_X12_in rfl ⟨rfl, rfl⟩ (by decide) (Nat.le_of_ble_eq_true rfl) rfl (by decide +kernel) rfl dX12_keep_4 [] [0, 1, 2] rfl rfl ?_
  refine g_is1 (ws2 := [(m0, oB 12 [.ref x0, .int (nI n), .int (nI Q.1), .int (nI Q.2.2.1), .int Q.2.1, .int Q.2.2.2, .ref x1, .ref x2, .ref x3, .ref x4, .int (nI und), .ref x5, .ref x6, .int (nI nt), .ref x7, .ref x8, .long tr, .ref x9]), (x3, iA E 50 (nowO f)), (x9, iA E 102 ke)]) (st2 := [.int (bI (zo x))]) [0, 1, 2] rfl rfl rfl ?_
  refine g_if_neB C 12 dX12_keep_7 (by decide) (fun cq1 => ?_) (fun cq1 => ?_)
  · obtain ⟨j, hj_j, rfl⟩ : ∃ j, j < 2 ∧ x = nI j := by rcases cq1 with h | h; (exact ⟨0, by decide, h⟩); (exact ⟨1, by decide, h⟩)
    have hcl_j : (nI j).toNatClampNeg = j := nI_clamp (by omega)
    refine g_aload_n C dX12_keep_12 rfl 0 rfl ?_
    refine g_get C i12 0 rfl rfl 17 (by decide) (List.mem_of_getElem? (i := 1) rfl) rfl rfl dX12_keep_13 ?_
    refine g_bipush C (nI 51) dX12_keep_16 (by decide) ?_
    refine g_iload_n C dX12_keep_18 rfl 1 rfl ?_
    refine g_imulN C dX12_keep_19 ?_
    refine g_iconst C (nI 1) dX12_keep_20 (by decide) ?_
    refine g_iast C (ws' := fun fq2 => [(m0, oB 12 [.ref x0, .int (nI n), .int (nI Q.1), .int (nI Q.2.2.1), .int Q.2.1, .int Q.2.2.2, .ref x1, .ref x2, .ref x3, .ref x4, .int (nI und), .ref x5, .ref x6, .int (nI nt), .ref x7, .ref x8, .long tr, .ref x9]), (x3, iA E 50 (nowO f)), (x9, iA E 102 fq2)]) 2 rfl (by omega) (by decide) dX12_keep_21 (fun _ _ => rfl) (fun fq2 efq2 => ?_)
    refine g_iconst C (nI 0) dX12_keep_22 (by decide) ?_
    refine g_istore_n C (lv' := [(2, .int (nI 0)), (0, .ref m0), (1, .int (nI j))]) dX12_keep_23 rfl (by decide) rfl ?_
    have L24 : ∀ (zz k : Nat) (v : Nat → Int32), k + zz = 50 + 1 → k ≤ 50 → (v = cpU (upd ke (51 * j) (nI 1)) (nowO f) (51 * j + 1) k) → G K 0 0 24 [(0, .ref m0), (1, .int (nI j)), (2, .int (nI k))] [] [(m0, oB 12 [.ref x0, .int (nI n), .int (nI Q.1), .int (nI Q.2.2.1), .int Q.2.1, .int Q.2.2.2, .ref x1, .ref x2, .ref x3, .ref x4, .int (nI und), .ref x5, .ref x6, .int (nI nt), .ref x7, .ref x8, .long tr, .ref x9]), (x3, iA E 50 (nowO f)), (x9, iA E 102 v)] := by
      intro zz
      induction zz with
      | zero => intro k v hL24 gL24; exfalso; omega
      | succ zz ihL24 =>
        intro k v hL24 gL24 hv9
        refine g_iload_n C dX12_keep_24 rfl 2 rfl ?_
        refine g_bipush C (nI 50) dX12_keep_25 (by decide) ?_
        refine g_icmp_geN C 55 dX12_keep_27 (by decide) (by omega) (by omega) (fun cq3 => ?_) (fun cq3 => ?_)
        · refine g_aload_n C dX12_keep_55 rfl 0 rfl ?_
          refine g_get C i12 0 rfl rfl 8 (by decide) (List.mem_of_getElem? (i := 2) rfl) rfl rfl dX12_keep_56 ?_
          refine g_iconst C (nI 0) dX12_keep_59 (by decide) ?_
          refine g_iald C 1 rfl (by omega) (by decide) dX12_keep_60 ?_
          refine g_as (nowO_0 _) ?_
          exact g_iret C X dX12_keep_61 (⟨by rw [if_pos cq1], by rw [if_pos cq1, hcl_j, hv9, show k = 50 by omega, keN]⟩)
        · refine g_aload_n C dX12_keep_30 rfl 0 rfl ?_
          refine g_get C i12 0 rfl rfl 17 (by decide) (List.mem_of_getElem? (i := 1) rfl) rfl rfl dX12_keep_31 ?_
          refine g_bipush C (nI 51) dX12_keep_34 (by decide) ?_
          refine g_iload_n C dX12_keep_36 rfl 1 rfl ?_
          refine g_imulN C dX12_keep_37 ?_
          refine g_iconst C (nI 1) dX12_keep_38 (by decide) ?_
          refine g_iaddN C dX12_keep_39 ?_
          refine g_iload_n C dX12_keep_40 rfl 2 rfl ?_
          refine g_iaddN C dX12_keep_41 ?_
          refine g_aload_n C dX12_keep_42 rfl 0 rfl ?_
          refine g_get C i12 0 rfl rfl 8 (by decide) (List.mem_of_getElem? (i := 2) rfl) rfl rfl dX12_keep_43 ?_
          refine g_iload_n C dX12_keep_46 rfl 2 rfl ?_
          refine g_iald C 1 rfl (by omega) (by decide) dX12_keep_47 ?_
          refine g_iast C (ws' := fun fq4 => [(m0, oB 12 [.ref x0, .int (nI n), .int (nI Q.1), .int (nI Q.2.2.1), .int Q.2.1, .int Q.2.2.2, .ref x1, .ref x2, .ref x3, .ref x4, .int (nI und), .ref x5, .ref x6, .int (nI nt), .ref x7, .ref x8, .long tr, .ref x9]), (x3, iA E 50 (nowO f)), (x9, iA E 102 fq4)]) 2 rfl (by omega) (by decide) dX12_keep_48 (fun _ _ => rfl) (fun fq4 efq4 => ?_)
          refine g_iincN C (lv' := [(2, .int (nI (k + 1))), (0, .ref m0), (1, .int (nI j))]) dX12_keep_49 2 rfl (by decide) rfl ?_
          refine g_goto C 24 dX12_keep_52 (by decide) ?_
          refine g_sub (lv' := [(0, .ref m0), (1, .int (nI j)), (2, .int (nI (k + 1)))]) [1, 2, 0] rfl ?_
          exact ihL24 (k + 1) fq4 (by omega) (by omega) (by rw [efq4, hv9, cpU_s])
    refine g_sub (lv' := [(0, .ref m0), (1, .int (nI j)), (2, .int (nI 0))]) [1, 2, 0] rfl ?_
    exact L24 (50 + 1 - 0) 0 fq2 (by omega) (by omega) (by rw [cpU_0]; exact efq2)
  · refine g_iconst C ((-1)) dX12_keep_10 (by decide) ?_
    exact g_iret C X dX12_keep_11 (⟨by rw [if_neg cq1], by rw [if_neg cq1]⟩)

set_option maxHeartbeats 4000000 in
set_option maxRecDepth 100000 in
theorem kX12_back (l : Launch) (E : EX) (m0 x0 x1 x2 x3 x4 x5 x6 x7 x8 x9 n und nt : Nat) (tr : Int64) (Q : RS) (f ke : Nat → Int32) (x : Int32)  : M l E yX12_back wsX12_back { frames := 1, cells := 0, slots := 0, locals := 25 } 0 0 [.ref m0, .int x] [(m0, oB 12 [.ref x0, .int (nI n), .int (nI Q.1), .int (nI Q.2.2.1), .int Q.2.1, .int Q.2.2.2, .ref x1, .ref x2, .ref x3, .ref x4, .int (nI und), .ref x5, .ref x6, .int (nI nt), .ref x7, .ref x8, .long tr, .ref x9]), (x3, iA E 50 (nowO f)), (x9, iA E 102 ke)] (is1 (some (.int (if zo x then (if ke (51 * x.toNatClampNeg) = 0 then (-2) else ke (51 * x.toNatClampNeg + 1)) else (-1)))) [(m0, oB 12 [.ref x0, .int (nI n), .int (nI Q.1), .int (nI Q.2.2.1), .int Q.2.1, .int Q.2.2.2, .ref x1, .ref x2, .ref x3, .ref x4, .int (nI (if zo x ∧ ¬ ke (51 * x.toNatClampNeg) = 0 then 0 else und)), .ref x5, .ref x6, .int (nI nt), .ref x7, .ref x8, .long tr, .ref x9]), (x3, iA E 50 (if zo x ∧ ¬ ke (51 * x.toNatClampNeg) = 0 then cpA (fun i => ke (51 * x.toNatClampNeg + 1 + i)) (nowO f) 50 else nowO f)), (x9, iA E 102 ke)]) := by
  refine M.ofG (cc := cX12_back) (maxL := 3) (ret := (some .int)) (lv := [(0, .ref m0), (1, .int x)]) (own := RX12) (by decide) rfl rfl (Nat.le_of_ble_eq_true rfl) rfl ?_
  intro K C X _
  have i12 : ∀ w ∈ wsX120, w ∈ wsX12_back := by decide +kernel
  refine g_iload_n C dX12_back_0 rfl 1 rfl ?_
  refine g_i2l C dX12_back_1 ?_
  refine g_lconst C 0 dX12_back_2 rfl ?_
  refine g_lconst C 1 dX12_back_3 rfl ?_
  refine g_callS C (rest := []) (n := 3) (kX12_in_zo l E x ) gX12_back_X12_in rfl ⟨rfl, rfl⟩ (by decide) (Nat.le_of_ble_eq_true rfl) rfl (by decide +kernel) rfl dX12_back_4 [] [0, 1, 2] rfl rfl ?_
  refine g_is1 (ws2 := [(m0, oB 12 [.ref x0, .int (nI n), .int (nI Q.1), .int (nI Q.2.2.1), .int Q.2.1, .int Q.2.2.2, .ref x1, .ref x2, .ref x3, .ref x4, .int (nI und), .ref x5, .ref x6, .int (nI nt), .ref x7, .ref x8, .long tr, .ref x9]), (x3, iA E 50 (nowO f)), (x9, iA E 102 ke)]) (st2 := [.int (bI (zo x))]) [0, 1, 2] rfl rfl rfl ?_
  refine g_if_neB C 12 dX12_back_7 (by decide) (fun cq1 => ?_) (fun cq1 => ?_)
  · obtain ⟨j, hj_j, rfl⟩ : ∃ j, j < 2 ∧ x = nI j := by rcases cq1 with h | h; (exact ⟨0, by decide, h⟩); (exact ⟨1, by decide, h⟩)
    have hcl_j : (nI j).toNatClampNeg = j := nI_clamp (by omega)
    refine g_aload_n C dX12_back_12 rfl 0 rfl ?_
    refine g_get C i12 0 rfl rfl 17 (by decide) (List.mem_of_getElem? (i := 1) rfl) rfl rfl dX12_back_13 ?_
    refine g_bipush C (nI 51) dX12_back_16 (by decide) ?_
    refine g_iload_n C dX12_back_18 rfl 1 rfl ?_
    refine g_imulN C dX12_back_19 ?_
    refine g_iald C 2 rfl (by omega) (by decide) dX12_back_20 ?_
    refine g_if_ne C 27 dX12_back_21 (by decide) (fun cq2 => ?_) (fun cq2 => ?_)
    · refine g_iconst C (nI 0) dX12_back_27 (by decide) ?_
      refine g_istore_n C (lv' := [(2, .int (nI 0)), (0, .ref m0), (1, .int (nI j))]) dX12_back_28 rfl (by decide) rfl ?_
      have L29 : ∀ (zz k : Nat) (v : Nat → Int32), k + zz = 50 + 1 → k ≤ 50 → (v = cpA (fun i => ke (51 * j + 1 + i)) (nowO f) k) → G K 0 0 29 [(0, .ref m0), (1, .int (nI j)), (2, .int (nI k))] [] [(m0, oB 12 [.ref x0, .int (nI n), .int (nI Q.1), .int (nI Q.2.2.1), .int Q.2.1, .int Q.2.2.2, .ref x1, .ref x2, .ref x3, .ref x4, .int (nI und), .ref x5, .ref x6, .int (nI nt), .ref x7, .ref x8, .long tr, .ref x9]), (x3, iA E 50 v), (x9, iA E 102 ke)] := by
        intro zz
        induction zz with
        | zero => intro k v hL29 gL29; exfalso; omega
        | succ zz ihL29 =>
          intro k v hL29 gL29 hv9
          refine g_iload_n C dX12_back_29 rfl 2 rfl ?_
          refine g_bipush C (nI 50) dX12_back_30 (by decide) ?_
          refine g_icmp_geN C 60 dX12_back_32 (by decide) (by omega) (by omega) (fun cq3 => ?_) (fun cq3 => ?_)
          · refine g_aload_n C dX12_back_60 rfl 0 rfl ?_
            refine g_iconst C (nI 0) dX12_back_61 (by decide) ?_
            refine g_put C i12 tyX12 tyX12_ok nmX12 0 rfl rfl 10 (by decide) (List.mem_of_getElem? (i := 3) rfl) rfl rfl rfl rfl rfl (Nat.le_of_ble_eq_true rfl) dX12_back_62 (ws' := [(m0, oB 12 [.ref x0, .int (nI n), .int (nI Q.1), .int (nI Q.2.2.1), .int Q.2.1, .int Q.2.2.2, .ref x1, .ref x2, .ref x3, .ref x4, .int (nI 0), .ref x5, .ref x6, .int (nI nt), .ref x7, .ref x8, .long tr, .ref x9]), (x3, iA E 50 v), (x9, iA E 102 ke)]) rfl ?_
            refine g_aload_n C dX12_back_65 rfl 0 rfl ?_
            refine g_get C i12 0 rfl rfl 8 (by decide) (List.mem_of_getElem? (i := 2) rfl) rfl rfl dX12_back_66 ?_
            refine g_iconst C (nI 0) dX12_back_69 (by decide) ?_
            refine g_iald C 1 rfl (by omega) (by decide) dX12_back_70 ?_
            exact g_iret C X dX12_back_71 (⟨by rw [if_pos cq1, hcl_j, if_neg cq2, hv9, show k = 50 by omega]; rfl, by rw [hcl_j, if_pos ⟨cq1, cq2⟩, if_pos ⟨cq1, cq2⟩, hv9, show k = 50 by omega]⟩)
          · refine g_aload_n C dX12_back_35 rfl 0 rfl ?_
            refine g_get C i12 0 rfl rfl 8 (by decide) (List.mem_of_getElem? (i := 2) rfl) rfl rfl dX12_back_36 ?_
            refine g_iload_n C dX12_back_39 rfl 2 rfl ?_
            refine g_aload_n C dX12_back_40 rfl 0 rfl ?_
            refine g_get C i12 0 rfl rfl 17 (by decide) (List.mem_of_getElem? (i := 1) rfl) rfl rfl dX12_back_41 ?_
            refine g_bipush C (nI 51) dX12_back_44 (by decide) ?_
            refine g_iload_n C dX12_back_46 rfl 1 rfl ?_
            refine g_imulN C dX12_back_47 ?_
            refine g_iconst C (nI 1) dX12_back_48 (by decide) ?_
            refine g_iaddN C dX12_back_49 ?_
            refine g_iload_n C dX12_back_50 rfl 2 rfl ?_
            refine g_iaddN C dX12_back_51 ?_
            refine g_iald C 2 rfl (by omega) (by decide) dX12_back_52 ?_
            refine g_iast C (ws' := fun fq4 => [(m0, oB 12 [.ref x0, .int (nI n), .int (nI Q.1), .int (nI Q.2.2.1), .int Q.2.1, .int Q.2.2.2, .ref x1, .ref x2, .ref x3, .ref x4, .int (nI und), .ref x5, .ref x6, .int (nI nt), .ref x7, .ref x8, .long tr, .ref x9]), (x3, iA E 50 fq4), (x9, iA E 102 ke)]) 1 rfl (by omega) (by decide) dX12_back_53 (fun _ _ => rfl) (fun fq4 efq4 => ?_)
            refine g_iincN C (lv' := [(2, .int (nI (k + 1))), (0, .ref m0), (1, .int (nI j))]) dX12_back_54 2 rfl (by decide) rfl ?_
            refine g_goto C 29 dX12_back_57 (by decide) ?_
            refine g_sub (lv' := [(0, .ref m0), (1, .int (nI j)), (2, .int (nI (k + 1)))]) [1, 2, 0] rfl ?_
            exact ihL29 (k + 1) fq4 (by omega) (by omega) (by rw [efq4, hv9]; exact cpA_s (fun i => ke (51 * j + 1 + i)) (nowO f) k)
      refine g_sub (lv' := [(0, .ref m0), (1, .int (nI j)), (2, .int (nI 0))]) [1, 2, 0] rfl ?_
      exact L29 (50 + 1 - 0) 0 (nowO f) (by omega) (by omega) ((cpA_0 _ _).symm)
    · refine g_bipush C ((-2)) dX12_back_24 (by decide) ?_
      exact g_iret C X dX12_back_26 (⟨by rw [if_pos cq1, hcl_j, if_pos cq2], by rw [hcl_j, if_neg (fun w => w.2 cq2), if_neg (fun w => w.2 cq2)]⟩)
  · refine g_iconst C ((-1)) dX12_back_10 (by decide) ?_
    exact g_iret C X dX12_back_11 (⟨by rw [if_neg cq1], by rw [if_neg (fun w => cq1 w.1), if_neg (fun w => cq1 w.1)]⟩)

set_option maxHeartbeats 4000000 in
set_option maxRecDepth 100000 in
theorem kX12_asides (l : Launch) (E : EX) (m0 x0 x1 x2 x3 x4 x5 x6 x7 x8 x9 n und nt : Nat) (tr : Int64) (Q : RS) (f asd : Nat → Int32)  : M l E yX12_asides wsX12_asides { frames := 0, cells := 0, slots := 0, locals := 0 } 0 0 [.ref m0] [(m0, oB 12 [.ref x0, .int (nI n), .int (nI Q.1), .int (nI Q.2.2.1), .int Q.2.1, .int Q.2.2.2, .ref x1, .ref x2, .ref x3, .ref x4, .int (nI und), .ref x5, .ref x6, .int (nI nt), .ref x7, .ref x8, .long tr, .ref x9]), (x3, iA E 50 (nowO f)), (x6, iA E 50 asd)] (is1 none [(m0, oB 12 [.ref x0, .int (nI n), .int (nI Q.1), .int (nI Q.2.2.1), .int Q.2.1, .int Q.2.2.2, .ref x1, .ref x2, .ref x3, .ref x4, .int (nI und), .ref x5, .ref x6, .int (nI nt), .ref x7, .ref x8, .long tr, .ref x9]), (x3, iA E 50 (nowO f)), (x6, iA E 50 (cpA (nowO f) asd 50))]) := by
  refine M.ofG (cc := cX12_asides) (maxL := 2) (ret := none) (lv := [(0, .ref m0)]) (own := RX12) (by decide) rfl rfl (Nat.le_of_ble_eq_true rfl) rfl ?_
  intro K C X _
  have i12 : ∀ w ∈ wsX120, w ∈ wsX12_asides := by decide +kernel
  refine g_iconst C (nI 0) dX12_asides_0 (by decide) ?_
  refine g_istore_n C (lv' := [(1, .int (nI 0)), (0, .ref m0)]) dX12_asides_1 rfl (by decide) rfl ?_
  have L2 : ∀ (zz k : Nat) (v : Nat → Int32), k + zz = 50 + 1 → k ≤ 50 → (v = cpA (nowO f) asd k) → G K 0 0 2 [(0, .ref m0), (1, .int (nI k))] [] [(m0, oB 12 [.ref x0, .int (nI n), .int (nI Q.1), .int (nI Q.2.2.1), .int Q.2.1, .int Q.2.2.2, .ref x1, .ref x2, .ref x3, .ref x4, .int (nI und), .ref x5, .ref x6, .int (nI nt), .ref x7, .ref x8, .long tr, .ref x9]), (x3, iA E 50 (nowO f)), (x6, iA E 50 v)] := by
    intro zz
    induction zz with
    | zero => intro k v hL2 gL2; exfalso; omega
    | succ zz ihL2 =>
      intro k v hL2 gL2 hv9
      refine g_iload_n C dX12_asides_2 rfl 1 rfl ?_
      refine g_bipush C (nI 50) dX12_asides_3 (by decide) ?_
      refine g_icmp_geN C 26 dX12_asides_5 (by decide) (by omega) (by omega) (fun cq1 => ?_) (fun cq1 => ?_)
      · exact g_vret C X dX12_asides_26 (⟨rfl, by rw [hv9, show k = 50 by omega]⟩)
      · refine g_aload_n C dX12_asides_8 rfl 0 rfl ?_
        refine g_get C i12 0 rfl rfl 12 (by decide) (List.mem_of_getElem? (i := 1) rfl) rfl rfl dX12_asides_9 ?_
        refine g_iload_n C dX12_asides_12 rfl 1 rfl ?_
        refine g_aload_n C dX12_asides_13 rfl 0 rfl ?_
        refine g_get C i12 0 rfl rfl 8 (by decide) (List.mem_of_getElem? (i := 2) rfl) rfl rfl dX12_asides_14 ?_
        refine g_iload_n C dX12_asides_17 rfl 1 rfl ?_
        refine g_iald C 1 rfl (by omega) (by decide) dX12_asides_18 ?_
        refine g_iast C (ws' := fun fq2 => [(m0, oB 12 [.ref x0, .int (nI n), .int (nI Q.1), .int (nI Q.2.2.1), .int Q.2.1, .int Q.2.2.2, .ref x1, .ref x2, .ref x3, .ref x4, .int (nI und), .ref x5, .ref x6, .int (nI nt), .ref x7, .ref x8, .long tr, .ref x9]), (x3, iA E 50 (nowO f)), (x6, iA E 50 fq2)]) 2 rfl (by omega) (by decide) dX12_asides_19 (fun _ _ => rfl) (fun fq2 efq2 => ?_)
        refine g_iincN C (lv' := [(1, .int (nI (k + 1))), (0, .ref m0)]) dX12_asides_20 1 rfl (by decide) rfl ?_
        refine g_goto C 2 dX12_asides_23 (by decide) ?_
        refine g_sub (lv' := [(0, .ref m0), (1, .int (nI (k + 1)))]) [1, 0] rfl ?_
        exact ihL2 (k + 1) fq2 (by omega) (by omega) (by rw [efq2, hv9, cpA_s])
  refine g_sub (lv' := [(0, .ref m0), (1, .int (nI 0))]) [1, 0] rfl ?_
  exact L2 (50 + 1 - 0) 0 asd (by omega) (by omega) ((cpA_0 _ _).symm)

set_option maxHeartbeats 4000000 in
set_option maxRecDepth 100000 in
theorem kX12_backs (l : Launch) (E : EX) (m0 x0 x1 x2 x3 x4 x5 x6 x7 x8 x9 n und nt : Nat) (tr : Int64) (Q : RS) (nw asd : Nat → Int32)  : M l E yX12_backs wsX12_backs { frames := 0, cells := 0, slots := 0, locals := 0 } 0 0 [.ref m0] [(m0, oB 12 [.ref x0, .int (nI n), .int (nI Q.1), .int (nI Q.2.2.1), .int Q.2.1, .int Q.2.2.2, .ref x1, .ref x2, .ref x3, .ref x4, .int (nI und), .ref x5, .ref x6, .int (nI nt), .ref x7, .ref x8, .long tr, .ref x9]), (x3, iA E 50 nw), (x6, iA E 50 asd)] (is1 none [(m0, oB 12 [.ref x0, .int (nI n), .int (nI Q.1), .int (nI Q.2.2.1), .int Q.2.1, .int Q.2.2.2, .ref x1, .ref x2, .ref x3, .ref x4, .int (nI und), .ref x5, .ref x6, .int (nI nt), .ref x7, .ref x8, .long tr, .ref x9]), (x3, iA E 50 (cpA asd nw 50)), (x6, iA E 50 asd)]) := by
  refine M.ofG (cc := cX12_backs) (maxL := 2) (ret := none) (lv := [(0, .ref m0)]) (own := RX12) (by decide) rfl rfl (Nat.le_of_ble_eq_true rfl) rfl ?_
  intro K C X _
  have i12 : ∀ w ∈ wsX120, w ∈ wsX12_backs := by decide +kernel
  refine g_iconst C (nI 0) dX12_backs_0 (by decide) ?_
  refine g_istore_n C (lv' := [(1, .int (nI 0)), (0, .ref m0)]) dX12_backs_1 rfl (by decide) rfl ?_
  have L2 : ∀ (zz k : Nat) (v : Nat → Int32), k + zz = 50 + 1 → k ≤ 50 → (v = cpA asd nw k) → G K 0 0 2 [(0, .ref m0), (1, .int (nI k))] [] [(m0, oB 12 [.ref x0, .int (nI n), .int (nI Q.1), .int (nI Q.2.2.1), .int Q.2.1, .int Q.2.2.2, .ref x1, .ref x2, .ref x3, .ref x4, .int (nI und), .ref x5, .ref x6, .int (nI nt), .ref x7, .ref x8, .long tr, .ref x9]), (x3, iA E 50 v), (x6, iA E 50 asd)] := by
    intro zz
    induction zz with
    | zero => intro k v hL2 gL2; exfalso; omega
    | succ zz ihL2 =>
      intro k v hL2 gL2 hv9
      refine g_iload_n C dX12_backs_2 rfl 1 rfl ?_
      refine g_bipush C (nI 50) dX12_backs_3 (by decide) ?_
      refine g_icmp_geN C 26 dX12_backs_5 (by decide) (by omega) (by omega) (fun cq1 => ?_) (fun cq1 => ?_)
      · exact g_vret C X dX12_backs_26 (⟨rfl, by rw [hv9, show k = 50 by omega]⟩)
      · refine g_aload_n C dX12_backs_8 rfl 0 rfl ?_
        refine g_get C i12 0 rfl rfl 8 (by decide) (List.mem_of_getElem? (i := 1) rfl) rfl rfl dX12_backs_9 ?_
        refine g_iload_n C dX12_backs_12 rfl 1 rfl ?_
        refine g_aload_n C dX12_backs_13 rfl 0 rfl ?_
        refine g_get C i12 0 rfl rfl 12 (by decide) (List.mem_of_getElem? (i := 2) rfl) rfl rfl dX12_backs_14 ?_
        refine g_iload_n C dX12_backs_17 rfl 1 rfl ?_
        refine g_iald C 2 rfl (by omega) (by decide) dX12_backs_18 ?_
        refine g_iast C (ws' := fun fq2 => [(m0, oB 12 [.ref x0, .int (nI n), .int (nI Q.1), .int (nI Q.2.2.1), .int Q.2.1, .int Q.2.2.2, .ref x1, .ref x2, .ref x3, .ref x4, .int (nI und), .ref x5, .ref x6, .int (nI nt), .ref x7, .ref x8, .long tr, .ref x9]), (x3, iA E 50 fq2), (x6, iA E 50 asd)]) 1 rfl (by omega) (by decide) dX12_backs_19 (fun _ _ => rfl) (fun fq2 efq2 => ?_)
        refine g_iincN C (lv' := [(1, .int (nI (k + 1))), (0, .ref m0)]) dX12_backs_20 1 rfl (by decide) rfl ?_
        refine g_goto C 2 dX12_backs_23 (by decide) ?_
        refine g_sub (lv' := [(0, .ref m0), (1, .int (nI (k + 1)))]) [1, 0] rfl ?_
        exact ihL2 (k + 1) fq2 (by omega) (by omega) (by rw [efq2, hv9, cpA_s])
  refine g_sub (lv' := [(0, .ref m0), (1, .int (nI 0))]) [1, 0] rfl ?_
  exact L2 (50 + 1 - 0) 0 nw (by omega) (by omega) ((cpA_0 _ _).symm)

set_option maxHeartbeats 4000000 in
set_option maxRecDepth 100000 in
theorem kX12_examines (l : Launch) (E : EX) (m0 x0 x1 x2 x3 x4 x5 x6 x7 x8 x9 n und nt : Nat) (tr : Int64) (Q : RS) (T : TS) (f : Nat → Int32) (un : Nat → Int32) (q : Int32) (hm : T.2.1 ≤ 6) (hu : und ≤ 10) (hS : SI T f) : M l E yX12_examines wsX12_examines { frames := 3, cells := 0, slots := 0, locals := 68 } 0 0 [.ref m0, .int q] [(m0, oB 12 [.ref x0, .int (nI n), .int (nI Q.1), .int (nI Q.2.2.1), .int Q.2.1, .int Q.2.2.2, .ref x1, .ref x2, .ref x3, .ref x4, .int (nI und), .ref x5, .ref x6, .int (nI nt), .ref x7, .ref x8, .long tr, .ref x9]), (x2, iA E 21 (papO T)), (x3, iA E 50 (nowO f)), (x4, iA E 500 un)] (is1 (some (.int (exaS T.2.1 f q))) [(m0, oB 12 [.ref x0, .int (nI n), .int (nI Q.1), .int (nI Q.2.2.1), .int Q.2.1, .int Q.2.2.2, .ref x1, .ref x2, .ref x3, .ref x4, .int (nI (if exaO T.2.1 f q then min (und + 1) 10 else und)), .ref x5, .ref x6, .int (nI nt), .ref x7, .ref x8, .long tr, .ref x9]), (x2, iA E 21 (papO T)), (x3, iA E 50 (nowO (if exaO T.2.1 f q then exaF f q.toNatClampNeg else f))), (x4, iA E 500 (if exaO T.2.1 f q then unK un f und else un))]) := by
  refine M.ofG (cc := cX12_examines) (maxL := 3) (ret := (some .int)) (lv := [(0, .ref m0), (1, .int q)]) (own := RX12) (by decide) rfl rfl (Nat.le_of_ble_eq_true rfl) rfl ?_
  intro K C X _
  have i12 : ∀ w ∈ wsX120, w ∈ wsX12_examines := by decide +kernel
  refine g_aload_n C dX12_examines_0 rfl 0 rfl ?_
  refine g_iload_n C dX12_examines_1 rfl 1 rfl ?_
  refine g_callV C (rest := []) (n := 1) (kX12_isPillow l E m0 x0 x1 x2 x3 x4 x5 x6 x7 x8 x9 n und nt tr Q T q (by omega)) gX12_examines_X12_isPillow rfl ⟨rfl, rfl⟩ (by decide) (Nat.le_of_ble_eq_true rfl) rfl (by decide +kernel) rfl dX12_examines_2 0 rfl rfl [0, 1] [2, 3] rfl rfl ?_
  refine g_is1 (ws2 := [(m0, oB 12 [.ref x0, .int (nI n), .int (nI Q.1), .int (nI Q.2.2.1), .int Q.2.1, .int Q.2.2.2, .ref x1, .ref x2, .ref x3, .ref x4, .int (nI und), .ref x5, .ref x6, .int (nI nt), .ref x7, .ref x8, .long tr, .ref x9]), (x2, iA E 21 (papO T)), (x3, iA E 50 (nowO f)), (x4, iA E 500 un)]) (st2 := [.int (bI (inR q T.2.1))]) [2, 3, 0, 1] rfl rfl rfl ?_
  refine g_if_neB C 10 dX12_examines_5 (by decide) (fun cq1 => ?_) (fun cq1 => ?_)
  · obtain ⟨j, hj_j, rfl⟩ := inR_of (n := T.2.1) (by omega) cq1
    have hcl_j : (nI j).toNatClampNeg = j := nI_clamp (by omega)
    refine g_aload_n C dX12_examines_10 rfl 0 rfl ?_
    refine g_get C i12 0 rfl rfl 8 (by decide) (List.mem_of_getElem? (i := 1) rfl) rfl rfl dX12_examines_11 ?_
    refine g_iconst C (nI 1) dX12_examines_14 (by decide) ?_
    refine g_iald C 2 rfl (by omega) (by decide) dX12_examines_15 ?_
    refine g_as (nowO_1 _) ?_
    refine g_iload_n C dX12_examines_16 rfl 1 rfl ?_
    refine g_ishr C dX12_examines_17 ?_
    refine g_iconst C (nI 1) dX12_examines_18 (by decide) ?_
    refine g_iand C dX12_examines_19 ?_
    refine g_iconst C (nI 1) dX12_examines_20 (by decide) ?_
    refine g_icmp_ne C 27 dX12_examines_21 (by decide) (fun cq2 => ?_) (fun cq2 => ?_)
    · refine g_aload_n C dX12_examines_27 rfl 0 rfl ?_
      refine g_callV C (rest := []) (n := 0) (kX12_keepsUndo l E m0 x0 x1 x2 x3 x4 x5 x6 x7 x8 x9 n und nt tr Q f un (by omega)) gX12_examines_X12_keepsUndo rfl ⟨rfl, rfl⟩ (by decide) (Nat.le_of_ble_eq_true rfl) rfl (by decide +kernel) rfl dX12_examines_28 0 rfl rfl [0, 2, 3] [1] rfl rfl ?_
      refine g_is1 (ws2 := [(m0, oB 12 [.ref x0, .int (nI n), .int (nI Q.1), .int (nI Q.2.2.1), .int Q.2.1, .int Q.2.2.2, .ref x1, .ref x2, .ref x3, .ref x4, .int (nI (min (und + 1) 10)), .ref x5, .ref x6, .int (nI nt), .ref x7, .ref x8, .long tr, .ref x9]), (x2, iA E 21 (papO T)), (x3, iA E 50 (nowO f)), (x4, iA E 500 (unK un f und))]) (st2 := []) [1, 0, 2, 3] rfl rfl rfl ?_
      refine g_aload_n C dX12_examines_31 rfl 0 rfl ?_
      refine g_aload_n C dX12_examines_32 rfl 0 rfl ?_
      refine g_get C i12 0 rfl rfl 8 (by decide) (List.mem_of_getElem? (i := 1) rfl) rfl rfl dX12_examines_33 ?_
      refine g_iconst C (nI 1) dX12_examines_36 (by decide) ?_
      refine g_iald C 2 rfl (by omega) (by decide) dX12_examines_37 ?_
      refine g_as (nowO_1 _) ?_
      refine g_callV C (rest := []) (n := 1) (kX12_hear l E m0 x0 x1 x2 x3 x4 x5 x6 x7 x8 x9 n (min (und + 1) 10) nt tr Q T f (f 48) (hm) (hS)) gX12_examines_X12_hear rfl ⟨rfl, rfl⟩ (by decide) (Nat.le_of_ble_eq_true rfl) rfl (by decide +kernel) rfl dX12_examines_38 0 rfl rfl [0, 1, 2] [3] rfl rfl ?_
      refine g_is1 (ws2 := [(m0, oB 12 [.ref x0, .int (nI n), .int (nI Q.1), .int (nI Q.2.2.1), .int Q.2.1, .int Q.2.2.2, .ref x1, .ref x2, .ref x3, .ref x4, .int (nI (min (und + 1) 10)), .ref x5, .ref x6, .int (nI nt), .ref x7, .ref x8, .long tr, .ref x9]), (x2, iA E 21 (papO T)), (x3, iA E 50 (nowO f)), (x4, iA E 500 (unK un f und))]) (st2 := [.int (thSet f (f 48) 6)]) [1, 2, 3, 0] rfl rfl rfl ?_
      refine g_istore_n C (lv' := [(2, .int (thSet f (f 48) 6)), (0, .ref m0), (1, .int (nI j))]) dX12_examines_41 rfl (by decide) rfl ?_
      refine g_aload_n C dX12_examines_42 rfl 1 rfl ?_
      refine g_get C i12 0 rfl rfl 8 (by decide) (List.mem_of_getElem? (i := 1) rfl) rfl rfl dX12_examines_43 ?_
      refine g_iconst C (nI 1) dX12_examines_46 (by decide) ?_
      refine g_dup2 C dX12_examines_47 rfl rfl ?_
      refine g_iald C 2 rfl (by omega) (by decide) dX12_examines_48 ?_
      refine g_as (nowO_1 _) ?_
      refine g_iconst C (nI 1) dX12_examines_49 (by decide) ?_
      refine g_iload_n C dX12_examines_50 rfl 2 rfl ?_
      refine g_ishl1 C dX12_examines_51 (by omega) ?_
      refine g_ior C dX12_examines_52 ?_
      refine g_iast C (ws' := fun fq3 => [(m0, oB 12 [.ref x0, .int (nI n), .int (nI Q.1), .int (nI Q.2.2.1), .int Q.2.1, .int Q.2.2.2, .ref x1, .ref x2, .ref x3, .ref x4, .int (nI (min (und + 1) 10)), .ref x5, .ref x6, .int (nI nt), .ref x7, .ref x8, .long tr, .ref x9]), (x2, iA E 21 (papO T)), (x3, iA E 50 fq3), (x4, iA E 500 (unK un f und))]) 2 rfl (by omega) (by decide) dX12_examines_53 (fun _ _ => rfl) (fun fq3 efq3 => ?_)
      obtain ⟨wq4, ewq4, rfl⟩ : ∃ z : Nat → Int32, z = upd f (48) ((f 48) ||| (nI (2 ^ j))) ∧ fq3 = nowO z := ⟨_, rfl, efq3.trans (nowO_u1 _ _)⟩
      refine g_aload_n C dX12_examines_54 rfl 1 rfl ?_
      refine g_iload_n C dX12_examines_55 rfl 2 rfl ?_
      refine g_callV C (rest := []) (n := 1) (kX12_hears l E m0 x0 x1 x2 x3 x4 x5 x6 x7 x8 x9 n (min (und + 1) 10) nt tr Q wq4 j (by omega)) gX12_examines_X12_hears rfl ⟨rfl, rfl⟩ (by decide) (Nat.le_of_ble_eq_true rfl) rfl (by decide +kernel) rfl dX12_examines_56 0 rfl rfl [0, 2] [1, 3] rfl rfl ?_
      refine g_is1 (ws2 := [(m0, oB 12 [.ref x0, .int (nI n), .int (nI Q.1), .int (nI Q.2.2.1), .int Q.2.1, .int Q.2.2.2, .ref x1, .ref x2, .ref x3, .ref x4, .int (nI (min (und + 1) 10)), .ref x5, .ref x6, .int (nI nt), .ref x7, .ref x8, .long tr, .ref x9]), (x2, iA E 21 (papO T)), (x3, iA E 50 (nowO wq4)), (x4, iA E 500 (unK un f und))]) (st2 := [.int (thOn wq4 j 7)]) [2, 0, 3, 1] rfl rfl rfl ?_
      refine g_iload_n C dX12_examines_59 rfl 0 rfl ?_
      refine g_iconst C ((-1)) dX12_examines_60 (by decide) ?_
      refine g_ixor C dX12_examines_61 ?_
      refine g_iand C dX12_examines_62 ?_
      refine g_callS C (rest := []) (n := 1) (kX12_many l E ((thOn wq4 j 7) &&& ((thSet f (f 48) 6) ^^^ (-1))) (s7_andl (thOn_s7 _ _) _)) gX12_examines_X12_many rfl ⟨rfl, rfl⟩ (by decide) (Nat.le_of_ble_eq_true rfl) rfl (by decide +kernel) rfl dX12_examines_63 [] [0, 1, 2, 3] rfl rfl ?_
      refine g_is1 (ws2 := [(m0, oB 12 [.ref x0, .int (nI n), .int (nI Q.1), .int (nI Q.2.2.1), .int Q.2.1, .int Q.2.2.2, .ref x1, .ref x2, .ref x3, .ref x4, .int (nI (min (und + 1) 10)), .ref x5, .ref x6, .int (nI nt), .ref x7, .ref x8, .long tr, .ref x9]), (x2, iA E 21 (papO T)), (x3, iA E 50 (nowO wq4)), (x4, iA E 500 (unK un f und))]) (st2 := [.int (bc ((thOn wq4 j 7) &&& ((thSet f (f 48) 6) ^^^ (-1))))]) [0, 1, 2, 3] rfl rfl rfl ?_
      exact g_iret C X dX12_examines_66 (⟨by unfold exaS; rw [hcl_j, if_pos cq1, if_neg (fun z => z (tb_n1 cq2)), exaF_th f (by omega), thOn_cg (f := wq4) (g := f) (fun t ht => by rw [ewq4, pk_un (by omega)]) 7 (by decide)], by rw [if_pos (⟨cq1, by rw [hcl_j]; exact fun z => z (tb_n1 cq2)⟩), if_pos (⟨cq1, by rw [hcl_j]; exact fun z => z (tb_n1 cq2)⟩), if_pos (⟨cq1, by rw [hcl_j]; exact fun z => z (tb_n1 cq2)⟩)]; rw [hcl_j, ewq4]; rfl⟩)
    · refine g_bipush C ((-2)) dX12_examines_24 (by decide) ?_
      exact g_iret C X dX12_examines_26 (⟨by unfold exaS; rw [hcl_j, if_pos cq1, if_pos (tb_1 cq2)], by rw [if_neg (fun w => w.2 (by rw [hcl_j]; exact tb_1 cq2)), if_neg (fun w => w.2 (by rw [hcl_j]; exact tb_1 cq2)), if_neg (fun w => w.2 (by rw [hcl_j]; exact tb_1 cq2))]⟩)
  · refine g_iconst C ((-1)) dX12_examines_8 (by decide) ?_
    exact g_iret C X dX12_examines_9 (⟨by unfold exaS; rw [if_neg cq1], by rw [if_neg (fun w => cq1 w.1), if_neg (fun w => cq1 w.1), if_neg (fun w => cq1 w.1)]⟩)

theorem tb127 : ∀ k, k < 7 → ¬ tb (nI 127) k = 0 := by decide +kernel

set_option maxHeartbeats 4000000 in
set_option maxRecDepth 100000 in
theorem kX12_rate (l : Launch) (E : EX) (m0 x0 x1 x2 x3 x4 x5 x6 x7 x8 x9 n und nt : Nat) (tr : Int64) (Q : RS) (T : TS) (f : Nat → Int32) (kd q : Int32) (hn : T.1 ≤ 6) (hm : T.2.1 ≤ 6) (hS : SI T f) : M l E yX12_rate wsX12_rate { frames := 2, cells := 0, slots := 0, locals := 46 } 0 0 [.ref m0, .int kd, .int q] [(m0, oB 12 [.ref x0, .int (nI n), .int (nI Q.1), .int (nI Q.2.2.1), .int Q.2.1, .int Q.2.2.2, .ref x1, .ref x2, .ref x3, .ref x4, .int (nI und), .ref x5, .ref x6, .int (nI nt), .ref x7, .ref x8, .long tr, .ref x9]), (x2, iA E 21 (papO T)), (x3, iA E 50 (nowO f))] (is1 (some (.int (ratS T.2.1 f kd q))) [(m0, oB 12 [.ref x0, .int (nI n), .int (nI Q.1), .int (nI Q.2.2.1), .int Q.2.1, .int Q.2.2.2, .ref x1, .ref x2, .ref x3, .ref x4, .int (nI und), .ref x5, .ref x6, .int (nI nt), .ref x7, .ref x8, .long (if ratO T.2.1 kd q then tr + ratA kd.toNatClampNeg else tr), .ref x9]), (x2, iA E 21 (papO T)), (x3, iA E 50 (nowO f))]) := by
  refine M.ofG (cc := cX12_rate) (maxL := 6) (ret := (some .int)) (lv := [(0, .ref m0), (1, .int kd), (2, .int q)]) (own := RX12) (by decide) rfl rfl (Nat.le_of_ble_eq_true rfl) rfl ?_
  intro K C X _
  have i12 : ∀ w ∈ wsX120, w ∈ wsX12_rate := by decide +kernel
  refine g_iload_n C dX12_rate_0 rfl 1 rfl ?_
  refine g_i2l C dX12_rate_1 ?_
  refine g_lconst C 0 dX12_rate_2 rfl ?_
  refine g_ldc2 C (v := 5) (List.mem_of_getElem? (i := 1) rfl) dX12_rate_3 ?_
  refine g_callS C (rest := []) (n := 3) (kX12_in_5 l E kd ) gX12_rate_X12_in rfl ⟨rfl, rfl⟩ (by decide) (Nat.le_of_ble_eq_true rfl) rfl (by decide +kernel) rfl dX12_rate_6 [] [0, 1, 2] rfl rfl ?_
  refine g_is1 (ws2 := [(m0, oB 12 [.ref x0, .int (nI n), .int (nI Q.1), .int (nI Q.2.2.1), .int Q.2.1, .int Q.2.2.2, .ref x1, .ref x2, .ref x3, .ref x4, .int (nI und), .ref x5, .ref x6, .int (nI nt), .ref x7, .ref x8, .long tr, .ref x9]), (x2, iA E 21 (papO T)), (x3, iA E 50 (nowO f))]) (st2 := [.int (bI (inR kd 6))]) [0, 1, 2] rfl rfl rfl ?_
  refine g_if_eqB C 20 dX12_rate_9 (by decide) (fun cq1 => ?_) (fun cq1 => ?_)
  · have hno : ¬ ratO T.2.1 kd q := fun w => cq1 w.1
    refine g_ldc C (v := (-1000000)) (List.mem_of_getElem? (i := 2) rfl) dX12_rate_20 ?_
    exact g_iret C X dX12_rate_22 (⟨by unfold ratS; rw [if_neg hno], by rw [if_neg hno]⟩)
  · refine g_aload_n C dX12_rate_12 rfl 0 rfl ?_
    refine g_iload_n C dX12_rate_13 rfl 2 rfl ?_
    refine g_callV C (rest := []) (n := 1) (kX12_isPillow l E m0 x0 x1 x2 x3 x4 x5 x6 x7 x8 x9 n und nt tr Q T q (by omega)) gX12_rate_X12_isPillow rfl ⟨rfl, rfl⟩ (by decide) (Nat.le_of_ble_eq_true rfl) rfl (by decide +kernel) rfl dX12_rate_14 0 rfl rfl [0, 1] [2] rfl rfl ?_
    refine g_is1 (ws2 := [(m0, oB 12 [.ref x0, .int (nI n), .int (nI Q.1), .int (nI Q.2.2.1), .int Q.2.1, .int Q.2.2.2, .ref x1, .ref x2, .ref x3, .ref x4, .int (nI und), .ref x5, .ref x6, .int (nI nt), .ref x7, .ref x8, .long tr, .ref x9]), (x2, iA E 21 (papO T)), (x3, iA E 50 (nowO f))]) (st2 := [.int (bI (inR q T.2.1))]) [1, 2, 0] rfl rfl rfl ?_
    refine g_if_neB C 23 dX12_rate_17 (by decide) (fun cq2 => ?_) (fun cq2 => ?_)
    · have hy : ratO T.2.1 kd q := ⟨cq1, cq2⟩
      obtain ⟨j, hj_j, rfl⟩ := inR_of (n := 6) (by decide) hy.1
      have hcl_j : (nI j).toNatClampNeg = j := nI_clamp (by omega)
      obtain ⟨i, hj_i, rfl⟩ := inR_of (n := T.2.1) (by omega) hy.2
      have hcl_i : (nI i).toNatClampNeg = i := nI_clamp (by omega)
      obtain rfl | rfl | rfl | rfl | rfl | rfl : j = 0 ∨ j = 1 ∨ j = 2 ∨ j = 3 ∨ j = 4 ∨ j = 5 := by omega
      · refine g_aload_n C dX12_rate_23 rfl 0 rfl ?_
        refine g_dup C dX12_rate_24 rfl ?_
        refine g_get C i12 0 rfl rfl 16 (by decide) (List.mem_of_getElem? (i := 3) rfl) rfl rfl dX12_rate_25 ?_
        refine g_iload_n C dX12_rate_28 rfl 1 rfl ?_
        refine g_if_neN C 36 dX12_rate_29 (by decide) (by omega) (fun cq3 => ?_) (fun cq3 => ?_)
        · exact absurd cq3 (by decide)
        · refine g_lconst C 1 dX12_rate_32 rfl ?_
          refine g_goto C 83 dX12_rate_33 (by decide) ?_
          refine g_ladd C dX12_rate_83 ?_
          refine g_put C i12 tyX12 tyX12_ok nmX12 0 rfl rfl 16 (by decide) (List.mem_of_getElem? (i := 3) rfl) rfl rfl rfl rfl rfl (Nat.le_of_ble_eq_true rfl) dX12_rate_84 (ws' := [(m0, oB 12 [.ref x0, .int (nI n), .int (nI Q.1), .int (nI Q.2.2.1), .int Q.2.1, .int Q.2.2.2, .ref x1, .ref x2, .ref x3, .ref x4, .int (nI und), .ref x5, .ref x6, .int (nI nt), .ref x7, .ref x8, .long (tr + 1), .ref x9]), (x2, iA E 21 (papO T)), (x3, iA E 50 (nowO f))]) rfl ?_
          refine g_aload_n C dX12_rate_87 rfl 0 rfl ?_
          refine g_iload_n C dX12_rate_88 rfl 2 rfl ?_
          refine g_callV C (rest := []) (n := 1) (kX12_hears l E m0 x0 x1 x2 x3 x4 x5 x6 x7 x8 x9 n und nt (tr + 1) Q f i (by omega)) gX12_rate_X12_hears rfl ⟨rfl, rfl⟩ (by decide) (Nat.le_of_ble_eq_true rfl) rfl (by decide +kernel) rfl dX12_rate_89 0 rfl rfl [0, 2] [1] rfl rfl ?_
          refine g_is1 (ws2 := [(m0, oB 12 [.ref x0, .int (nI n), .int (nI Q.1), .int (nI Q.2.2.1), .int Q.2.1, .int Q.2.2.2, .ref x1, .ref x2, .ref x3, .ref x4, .int (nI und), .ref x5, .ref x6, .int (nI nt), .ref x7, .ref x8, .long (tr + 1), .ref x9]), (x2, iA E 21 (papO T)), (x3, iA E 50 (nowO f))]) (st2 := [.int (thOn f i 7)]) [1, 0, 2] rfl rfl rfl ?_
          refine g_callS C (rest := []) (n := 1) (kX12_many l E (thOn f i 7) (thOn_s7 _ _)) gX12_rate_X12_many rfl ⟨rfl, rfl⟩ (by decide) (Nat.le_of_ble_eq_true rfl) rfl (by decide +kernel) rfl dX12_rate_92 [] [0, 1, 2] rfl rfl ?_
          refine g_is1 (ws2 := [(m0, oB 12 [.ref x0, .int (nI n), .int (nI Q.1), .int (nI Q.2.2.1), .int Q.2.1, .int Q.2.2.2, .ref x1, .ref x2, .ref x3, .ref x4, .int (nI und), .ref x5, .ref x6, .int (nI nt), .ref x7, .ref x8, .long (tr + 1), .ref x9]), (x2, iA E 21 (papO T)), (x3, iA E 50 (nowO f))]) (st2 := [.int (bc (thOn f i 7))]) [0, 1, 2] rfl rfl rfl ?_
          refine g_istore_n C (lv' := [(3, .int (bc (thOn f i 7))), (0, .ref m0), (1, .int (nI 0)), (2, .int (nI i))]) dX12_rate_95 rfl (by decide) rfl ?_
          refine g_iload_n C dX12_rate_96 rfl 0 rfl ?_
          refine g_istore C (lv' := [(4, .int (bc (thOn f i 7))), (3, .int (bc (thOn f i 7))), (0, .ref m0), (1, .int (nI 0)), (2, .int (nI i))]) dX12_rate_97 (by decide) rfl ?_
          refine g_iconst C (nI 0) dX12_rate_99 (by decide) ?_
          refine g_istore C (lv' := [(5, .int (nI 0)), (4, .int (bc (thOn f i 7))), (3, .int (bc (thOn f i 7))), (0, .ref m0), (1, .int (nI 0)), (2, .int (nI i))]) dX12_rate_100 (by decide) rfl ?_
          have L102 : ∀ (zz k : Nat) (a : Int32), k + zz = 7 + 1 → k ≤ 7 → (a = rt6 f i + tiOn f i (nI 127) k) → G K 0 0 102 [(0, .ref m0), (1, .int (nI 0)), (2, .int (nI i)), (3, .int (bc (thOn f i 7))), (4, .int a), (5, .int (nI k))] [] [(m0, oB 12 [.ref x0, .int (nI n), .int (nI Q.1), .int (nI Q.2.2.1), .int Q.2.1, .int Q.2.2.2, .ref x1, .ref x2, .ref x3, .ref x4, .int (nI und), .ref x5, .ref x6, .int (nI nt), .ref x7, .ref x8, .long (tr + 1), .ref x9]), (x2, iA E 21 (papO T)), (x3, iA E 50 (nowO f))] := by
            intro zz
            induction zz with
            | zero => intro k a hL102 gL102; exfalso; omega
            | succ zz ihL102 =>
              intro k a hL102 gL102 ha
              refine g_iload C dX12_rate_102 5 rfl ?_
              refine g_bipush C (nI 7) dX12_rate_104 (by decide) ?_
              refine g_icmp_geN C 127 dX12_rate_106 (by decide) (by omega) (by omega) (fun cq4 => ?_) (fun cq4 => ?_)
              · have hk7 : a = rt3 f i := by rw [ha, show k = 7 by omega, rt3]
                refine g_iload_n C dX12_rate_127 rfl 3 rfl ?_
                refine g_aload_n C dX12_rate_128 rfl 0 rfl ?_
                refine g_iload_n C dX12_rate_129 rfl 2 rfl ?_
                refine g_callV C (rest := [.int (bc (thOn f i 7))]) (n := 1) (kX12_lieOn l E m0 x0 x1 x2 x3 x4 x5 x6 x7 x8 x9 n und nt (tr + 1) Q T f i (hn) (by omega) (hS)) gX12_rate_X12_lieOn rfl ⟨rfl, rfl⟩ (by decide) (Nat.le_of_ble_eq_true rfl) rfl (by decide +kernel) rfl dX12_rate_130 0 rfl rfl [0, 1, 2] [] rfl rfl ?_
                refine g_is1 (ws2 := [(m0, oB 12 [.ref x0, .int (nI n), .int (nI Q.1), .int (nI Q.2.2.1), .int Q.2.1, .int Q.2.2.2, .ref x1, .ref x2, .ref x3, .ref x4, .int (nI und), .ref x5, .ref x6, .int (nI nt), .ref x7, .ref x8, .long (tr + 1), .ref x9]), (x2, iA E 21 (papO T)), (x3, iA E 50 (nowO f))]) (st2 := [.int (slOn f i 6), .int (bc (thOn f i 7))]) [0, 1, 2] rfl rfl rfl ?_
                refine g_callS C (rest := [.int (bc (thOn f i 7))]) (n := 1) (kX12_many l E (slOn f i 6) (slOn_s7 _ _)) gX12_rate_X12_many rfl ⟨rfl, rfl⟩ (by decide) (Nat.le_of_ble_eq_true rfl) rfl (by decide +kernel) rfl dX12_rate_133 [] [0, 1, 2] rfl rfl ?_
                refine g_is1 (ws2 := [(m0, oB 12 [.ref x0, .int (nI n), .int (nI Q.1), .int (nI Q.2.2.1), .int Q.2.1, .int Q.2.2.2, .ref x1, .ref x2, .ref x3, .ref x4, .int (nI und), .ref x5, .ref x6, .int (nI nt), .ref x7, .ref x8, .long (tr + 1), .ref x9]), (x2, iA E 21 (papO T)), (x3, iA E 50 (nowO f))]) (st2 := [.int (bc (slOn f i 6)), .int (bc (thOn f i 7))]) [0, 1, 2] rfl rfl rfl ?_
                refine g_isub C dX12_rate_136 ?_
                refine g_istore C (lv' := [(5, .int ((bc (thOn f i 7)) - (bc (slOn f i 6)))), (0, .ref m0), (1, .int (nI 0)), (2, .int (nI i)), (3, .int (bc (thOn f i 7))), (4, .int a)]) dX12_rate_137 (by decide) rfl ?_
                refine g_iload_n C dX12_rate_139 rfl 2 rfl ?_
                refine g_tableIn C 176 dX12_rate_140 (by decide) (by decide) (off := 36) (by decide) (by decide) ?_
                refine g_iload_n C dX12_rate_176 rfl 4 rfl ?_
                exact g_iret C X dX12_rate_177 (⟨by unfold ratS; rw [if_pos hy, hcl_i, show (nI 0).toNatClampNeg = 0 from nI_clamp (by decide)]; rfl, by rw [if_pos hy, show (nI 0).toNatClampNeg = 0 from nI_clamp (by decide)]; rfl⟩)
              · refine g_iload C dX12_rate_109 4 rfl ?_
                refine g_aload_n C dX12_rate_111 rfl 0 rfl ?_
                refine g_iload_n C dX12_rate_112 rfl 2 rfl ?_
                refine g_iload C dX12_rate_113 5 rfl ?_
                refine g_callV C (rest := [.int a]) (n := 2) (kX12_often l E m0 x0 x1 x2 x3 x4 x5 x6 x7 x8 x9 n und nt (tr + 1) Q f i k (by omega) (by omega)) gX12_rate_X12_often rfl ⟨rfl, rfl⟩ (by decide) (Nat.le_of_ble_eq_true rfl) rfl (by decide +kernel) rfl dX12_rate_115 0 rfl rfl [0, 2] [1] rfl rfl ?_
                refine g_is1 (ws2 := [(m0, oB 12 [.ref x0, .int (nI n), .int (nI Q.1), .int (nI Q.2.2.1), .int Q.2.1, .int Q.2.2.2, .ref x1, .ref x2, .ref x3, .ref x4, .int (nI und), .ref x5, .ref x6, .int (nI nt), .ref x7, .ref x8, .long (tr + 1), .ref x9]), (x2, iA E 21 (papO T)), (x3, iA E 50 (nowO f))]) (st2 := [.int (f (i * 7 + k)), .int a]) [1, 0, 2] rfl rfl rfl ?_
                refine g_iadd C dX12_rate_118 ?_
                refine g_istore C (lv' := [(4, .int (a + (f (i * 7 + k)))), (0, .ref m0), (1, .int (nI 0)), (2, .int (nI i)), (3, .int (bc (thOn f i 7))), (5, .int (nI k))]) dX12_rate_119 (by decide) rfl ?_
                refine g_iincN C (lv' := [(5, .int (nI (k + 1))), (4, .int (a + (f (i * 7 + k)))), (0, .ref m0), (1, .int (nI 0)), (2, .int (nI i)), (3, .int (bc (thOn f i 7)))]) dX12_rate_121 5 rfl (by decide) rfl ?_
                refine g_goto C 102 dX12_rate_124 (by decide) ?_
                refine g_sub (lv' := [(0, .ref m0), (1, .int (nI 0)), (2, .int (nI i)), (3, .int (bc (thOn f i 7))), (4, .int (a + (f (i * 7 + k)))), (5, .int (nI (k + 1)))]) [2, 3, 4, 5, 1, 0] rfl ?_
                exact ihL102 (k + 1) (a + (f (i * 7 + k))) (by omega) (by omega) (by rw [tiOn, if_neg (tb127 k (by omega)), ← Int32.add_assoc, ← ha])
          refine g_sub (lv' := [(0, .ref m0), (1, .int (nI 0)), (2, .int (nI i)), (3, .int (bc (thOn f i 7))), (4, .int (bc (thOn f i 7))), (5, .int (nI 0))]) [3, 4, 5, 2, 1, 0] rfl ?_
          exact L102 (7 + 1 - 0) 0 (bc (thOn f i 7)) (by omega) (by omega) ((addz _).symm)
      · refine g_aload_n C dX12_rate_23 rfl 0 rfl ?_
        refine g_dup C dX12_rate_24 rfl ?_
        refine g_get C i12 0 rfl rfl 16 (by decide) (List.mem_of_getElem? (i := 3) rfl) rfl rfl dX12_rate_25 ?_
        refine g_iload_n C dX12_rate_28 rfl 1 rfl ?_
        refine g_if_neN C 36 dX12_rate_29 (by decide) (by omega) (fun cq5 => ?_) (fun cq5 => ?_)
        · refine g_iload_n C dX12_rate_36 rfl 1 rfl ?_
          refine g_iconst C (nI 1) dX12_rate_37 (by decide) ?_
          refine g_icmp_neN C 47 dX12_rate_38 (by decide) (by omega) (by omega) (fun cq6 => ?_) (fun cq6 => ?_)
          · exact absurd cq6 (by decide)
          · refine g_ldc2 C (v := 11) (List.mem_of_getElem? (i := 4) rfl) dX12_rate_41 ?_
            refine g_goto C 83 dX12_rate_44 (by decide) ?_
            refine g_ladd C dX12_rate_83 ?_
            refine g_put C i12 tyX12 tyX12_ok nmX12 0 rfl rfl 16 (by decide) (List.mem_of_getElem? (i := 3) rfl) rfl rfl rfl rfl rfl (Nat.le_of_ble_eq_true rfl) dX12_rate_84 (ws' := [(m0, oB 12 [.ref x0, .int (nI n), .int (nI Q.1), .int (nI Q.2.2.1), .int Q.2.1, .int Q.2.2.2, .ref x1, .ref x2, .ref x3, .ref x4, .int (nI und), .ref x5, .ref x6, .int (nI nt), .ref x7, .ref x8, .long (tr + 11), .ref x9]), (x2, iA E 21 (papO T)), (x3, iA E 50 (nowO f))]) rfl ?_
            refine g_aload_n C dX12_rate_87 rfl 0 rfl ?_
            refine g_iload_n C dX12_rate_88 rfl 2 rfl ?_
            refine g_callV C (rest := []) (n := 1) (kX12_hears l E m0 x0 x1 x2 x3 x4 x5 x6 x7 x8 x9 n und nt (tr + 11) Q f i (by omega)) gX12_rate_X12_hears rfl ⟨rfl, rfl⟩ (by decide) (Nat.le_of_ble_eq_true rfl) rfl (by decide +kernel) rfl dX12_rate_89 0 rfl rfl [0, 2] [1] rfl rfl ?_
            refine g_is1 (ws2 := [(m0, oB 12 [.ref x0, .int (nI n), .int (nI Q.1), .int (nI Q.2.2.1), .int Q.2.1, .int Q.2.2.2, .ref x1, .ref x2, .ref x3, .ref x4, .int (nI und), .ref x5, .ref x6, .int (nI nt), .ref x7, .ref x8, .long (tr + 11), .ref x9]), (x2, iA E 21 (papO T)), (x3, iA E 50 (nowO f))]) (st2 := [.int (thOn f i 7)]) [1, 0, 2] rfl rfl rfl ?_
            refine g_callS C (rest := []) (n := 1) (kX12_many l E (thOn f i 7) (thOn_s7 _ _)) gX12_rate_X12_many rfl ⟨rfl, rfl⟩ (by decide) (Nat.le_of_ble_eq_true rfl) rfl (by decide +kernel) rfl dX12_rate_92 [] [0, 1, 2] rfl rfl ?_
            refine g_is1 (ws2 := [(m0, oB 12 [.ref x0, .int (nI n), .int (nI Q.1), .int (nI Q.2.2.1), .int Q.2.1, .int Q.2.2.2, .ref x1, .ref x2, .ref x3, .ref x4, .int (nI und), .ref x5, .ref x6, .int (nI nt), .ref x7, .ref x8, .long (tr + 11), .ref x9]), (x2, iA E 21 (papO T)), (x3, iA E 50 (nowO f))]) (st2 := [.int (bc (thOn f i 7))]) [0, 1, 2] rfl rfl rfl ?_
            refine g_istore_n C (lv' := [(3, .int (bc (thOn f i 7))), (0, .ref m0), (1, .int (nI 1)), (2, .int (nI i))]) dX12_rate_95 rfl (by decide) rfl ?_
            refine g_iload_n C dX12_rate_96 rfl 0 rfl ?_
            refine g_istore C (lv' := [(4, .int (bc (thOn f i 7))), (3, .int (bc (thOn f i 7))), (0, .ref m0), (1, .int (nI 1)), (2, .int (nI i))]) dX12_rate_97 (by decide) rfl ?_
            refine g_iconst C (nI 0) dX12_rate_99 (by decide) ?_
            refine g_istore C (lv' := [(5, .int (nI 0)), (4, .int (bc (thOn f i 7))), (3, .int (bc (thOn f i 7))), (0, .ref m0), (1, .int (nI 1)), (2, .int (nI i))]) dX12_rate_100 (by decide) rfl ?_
            have L102x : ∀ (zz k : Nat) (a : Int32), k + zz = 7 + 1 → k ≤ 7 → (a = rt6 f i + tiOn f i (nI 127) k) → G K 0 0 102 [(0, .ref m0), (1, .int (nI 1)), (2, .int (nI i)), (3, .int (bc (thOn f i 7))), (4, .int a), (5, .int (nI k))] [] [(m0, oB 12 [.ref x0, .int (nI n), .int (nI Q.1), .int (nI Q.2.2.1), .int Q.2.1, .int Q.2.2.2, .ref x1, .ref x2, .ref x3, .ref x4, .int (nI und), .ref x5, .ref x6, .int (nI nt), .ref x7, .ref x8, .long (tr + 11), .ref x9]), (x2, iA E 21 (papO T)), (x3, iA E 50 (nowO f))] := by
              intro zz
              induction zz with
              | zero => intro k a hL102x gL102x; exfalso; omega
              | succ zz ihL102x =>
                intro k a hL102x gL102x ha
                refine g_iload C dX12_rate_102 5 rfl ?_
                refine g_bipush C (nI 7) dX12_rate_104 (by decide) ?_
                refine g_icmp_geN C 127 dX12_rate_106 (by decide) (by omega) (by omega) (fun cq7 => ?_) (fun cq7 => ?_)
                · have hk7 : a = rt3 f i := by rw [ha, show k = 7 by omega, rt3]
                  refine g_iload_n C dX12_rate_127 rfl 3 rfl ?_
                  refine g_aload_n C dX12_rate_128 rfl 0 rfl ?_
                  refine g_iload_n C dX12_rate_129 rfl 2 rfl ?_
                  refine g_callV C (rest := [.int (bc (thOn f i 7))]) (n := 1) (kX12_lieOn l E m0 x0 x1 x2 x3 x4 x5 x6 x7 x8 x9 n und nt (tr + 11) Q T f i (hn) (by omega) (hS)) gX12_rate_X12_lieOn rfl ⟨rfl, rfl⟩ (by decide) (Nat.le_of_ble_eq_true rfl) rfl (by decide +kernel) rfl dX12_rate_130 0 rfl rfl [0, 1, 2] [] rfl rfl ?_
                  refine g_is1 (ws2 := [(m0, oB 12 [.ref x0, .int (nI n), .int (nI Q.1), .int (nI Q.2.2.1), .int Q.2.1, .int Q.2.2.2, .ref x1, .ref x2, .ref x3, .ref x4, .int (nI und), .ref x5, .ref x6, .int (nI nt), .ref x7, .ref x8, .long (tr + 11), .ref x9]), (x2, iA E 21 (papO T)), (x3, iA E 50 (nowO f))]) (st2 := [.int (slOn f i 6), .int (bc (thOn f i 7))]) [0, 1, 2] rfl rfl rfl ?_
                  refine g_callS C (rest := [.int (bc (thOn f i 7))]) (n := 1) (kX12_many l E (slOn f i 6) (slOn_s7 _ _)) gX12_rate_X12_many rfl ⟨rfl, rfl⟩ (by decide) (Nat.le_of_ble_eq_true rfl) rfl (by decide +kernel) rfl dX12_rate_133 [] [0, 1, 2] rfl rfl ?_
                  refine g_is1 (ws2 := [(m0, oB 12 [.ref x0, .int (nI n), .int (nI Q.1), .int (nI Q.2.2.1), .int Q.2.1, .int Q.2.2.2, .ref x1, .ref x2, .ref x3, .ref x4, .int (nI und), .ref x5, .ref x6, .int (nI nt), .ref x7, .ref x8, .long (tr + 11), .ref x9]), (x2, iA E 21 (papO T)), (x3, iA E 50 (nowO f))]) (st2 := [.int (bc (slOn f i 6)), .int (bc (thOn f i 7))]) [0, 1, 2] rfl rfl rfl ?_
                  refine g_isub C dX12_rate_136 ?_
                  refine g_istore C (lv' := [(5, .int ((bc (thOn f i 7)) - (bc (slOn f i 6)))), (0, .ref m0), (1, .int (nI 1)), (2, .int (nI i)), (3, .int (bc (thOn f i 7))), (4, .int a)]) dX12_rate_137 (by decide) rfl ?_
                  refine g_iload_n C dX12_rate_139 rfl 2 rfl ?_
                  refine g_tableIn C 178 dX12_rate_140 (by decide) (by decide) (off := 38) (by decide) (by decide) ?_
                  refine g_iload C dX12_rate_178 5 rfl ?_
                  exact g_iret C X dX12_rate_180 (⟨by unfold ratS; rw [if_pos hy, hcl_i, show (nI 1).toNatClampNeg = 1 from nI_clamp (by decide)]; exact congrArg (fun z => some (Value.int z)) hk7, by rw [if_pos hy, show (nI 1).toNatClampNeg = 1 from nI_clamp (by decide)]; rfl⟩)
                · refine g_iload C dX12_rate_109 4 rfl ?_
                  refine g_aload_n C dX12_rate_111 rfl 0 rfl ?_
                  refine g_iload_n C dX12_rate_112 rfl 2 rfl ?_
                  refine g_iload C dX12_rate_113 5 rfl ?_
                  refine g_callV C (rest := [.int a]) (n := 2) (kX12_often l E m0 x0 x1 x2 x3 x4 x5 x6 x7 x8 x9 n und nt (tr + 11) Q f i k (by omega) (by omega)) gX12_rate_X12_often rfl ⟨rfl, rfl⟩ (by decide) (Nat.le_of_ble_eq_true rfl) rfl (by decide +kernel) rfl dX12_rate_115 0 rfl rfl [0, 2] [1] rfl rfl ?_
                  refine g_is1 (ws2 := [(m0, oB 12 [.ref x0, .int (nI n), .int (nI Q.1), .int (nI Q.2.2.1), .int Q.2.1, .int Q.2.2.2, .ref x1, .ref x2, .ref x3, .ref x4, .int (nI und), .ref x5, .ref x6, .int (nI nt), .ref x7, .ref x8, .long (tr + 11), .ref x9]), (x2, iA E 21 (papO T)), (x3, iA E 50 (nowO f))]) (st2 := [.int (f (i * 7 + k)), .int a]) [1, 0, 2] rfl rfl rfl ?_
                  refine g_iadd C dX12_rate_118 ?_
                  refine g_istore C (lv' := [(4, .int (a + (f (i * 7 + k)))), (0, .ref m0), (1, .int (nI 1)), (2, .int (nI i)), (3, .int (bc (thOn f i 7))), (5, .int (nI k))]) dX12_rate_119 (by decide) rfl ?_
                  refine g_iincN C (lv' := [(5, .int (nI (k + 1))), (4, .int (a + (f (i * 7 + k)))), (0, .ref m0), (1, .int (nI 1)), (2, .int (nI i)), (3, .int (bc (thOn f i 7)))]) dX12_rate_121 5 rfl (by decide) rfl ?_
                  refine g_goto C 102 dX12_rate_124 (by decide) ?_
                  refine g_sub (lv' := [(0, .ref m0), (1, .int (nI 1)), (2, .int (nI i)), (3, .int (bc (thOn f i 7))), (4, .int (a + (f (i * 7 + k)))), (5, .int (nI (k + 1)))]) [2, 3, 4, 5, 1, 0] rfl ?_
                  exact ihL102x (k + 1) (a + (f (i * 7 + k))) (by omega) (by omega) (by rw [tiOn, if_neg (tb127 k (by omega)), ← Int32.add_assoc, ← ha])
            refine g_sub (lv' := [(0, .ref m0), (1, .int (nI 1)), (2, .int (nI i)), (3, .int (bc (thOn f i 7))), (4, .int (bc (thOn f i 7))), (5, .int (nI 0))]) [3, 4, 5, 2, 1, 0] rfl ?_
            exact L102x (7 + 1 - 0) 0 (bc (thOn f i 7)) (by omega) (by omega) ((addz _).symm)
        · exact absurd cq5 (by decide)
      · refine g_aload_n C dX12_rate_23 rfl 0 rfl ?_
        refine g_dup C dX12_rate_24 rfl ?_
        refine g_get C i12 0 rfl rfl 16 (by decide) (List.mem_of_getElem? (i := 3) rfl) rfl rfl dX12_rate_25 ?_
        refine g_iload_n C dX12_rate_28 rfl 1 rfl ?_
        refine g_if_neN C 36 dX12_rate_29 (by decide) (by omega) (fun cq8 => ?_) (fun cq8 => ?_)
        · refine g_iload_n C dX12_rate_36 rfl 1 rfl ?_
          refine g_iconst C (nI 1) dX12_rate_37 (by decide) ?_
          refine g_icmp_neN C 47 dX12_rate_38 (by decide) (by omega) (by omega) (fun cq9 => ?_) (fun cq9 => ?_)
          · refine g_iload_n C dX12_rate_47 rfl 1 rfl ?_
            refine g_iconst C (nI 2) dX12_rate_48 (by decide) ?_
            refine g_icmp_neN C 58 dX12_rate_49 (by decide) (by omega) (by omega) (fun cq10 => ?_) (fun cq10 => ?_)
            · exact absurd cq10 (by decide)
            · refine g_ldc2 C (v := 101) (List.mem_of_getElem? (i := 5) rfl) dX12_rate_52 ?_
              refine g_goto C 83 dX12_rate_55 (by decide) ?_
              refine g_ladd C dX12_rate_83 ?_
              refine g_put C i12 tyX12 tyX12_ok nmX12 0 rfl rfl 16 (by decide) (List.mem_of_getElem? (i := 3) rfl) rfl rfl rfl rfl rfl (Nat.le_of_ble_eq_true rfl) dX12_rate_84 (ws' := [(m0, oB 12 [.ref x0, .int (nI n), .int (nI Q.1), .int (nI Q.2.2.1), .int Q.2.1, .int Q.2.2.2, .ref x1, .ref x2, .ref x3, .ref x4, .int (nI und), .ref x5, .ref x6, .int (nI nt), .ref x7, .ref x8, .long (tr + 101), .ref x9]), (x2, iA E 21 (papO T)), (x3, iA E 50 (nowO f))]) rfl ?_
              refine g_aload_n C dX12_rate_87 rfl 0 rfl ?_
              refine g_iload_n C dX12_rate_88 rfl 2 rfl ?_
              refine g_callV C (rest := []) (n := 1) (kX12_hears l E m0 x0 x1 x2 x3 x4 x5 x6 x7 x8 x9 n und nt (tr + 101) Q f i (by omega)) gX12_rate_X12_hears rfl ⟨rfl, rfl⟩ (by decide) (Nat.le_of_ble_eq_true rfl) rfl (by decide +kernel) rfl dX12_rate_89 0 rfl rfl [0, 2] [1] rfl rfl ?_
              refine g_is1 (ws2 := [(m0, oB 12 [.ref x0, .int (nI n), .int (nI Q.1), .int (nI Q.2.2.1), .int Q.2.1, .int Q.2.2.2, .ref x1, .ref x2, .ref x3, .ref x4, .int (nI und), .ref x5, .ref x6, .int (nI nt), .ref x7, .ref x8, .long (tr + 101), .ref x9]), (x2, iA E 21 (papO T)), (x3, iA E 50 (nowO f))]) (st2 := [.int (thOn f i 7)]) [1, 0, 2] rfl rfl rfl ?_
              refine g_callS C (rest := []) (n := 1) (kX12_many l E (thOn f i 7) (thOn_s7 _ _)) gX12_rate_X12_many rfl ⟨rfl, rfl⟩ (by decide) (Nat.le_of_ble_eq_true rfl) rfl (by decide +kernel) rfl dX12_rate_92 [] [0, 1, 2] rfl rfl ?_
              refine g_is1 (ws2 := [(m0, oB 12 [.ref x0, .int (nI n), .int (nI Q.1), .int (nI Q.2.2.1), .int Q.2.1, .int Q.2.2.2, .ref x1, .ref x2, .ref x3, .ref x4, .int (nI und), .ref x5, .ref x6, .int (nI nt), .ref x7, .ref x8, .long (tr + 101), .ref x9]), (x2, iA E 21 (papO T)), (x3, iA E 50 (nowO f))]) (st2 := [.int (bc (thOn f i 7))]) [0, 1, 2] rfl rfl rfl ?_
              refine g_istore_n C (lv' := [(3, .int (bc (thOn f i 7))), (0, .ref m0), (1, .int (nI 2)), (2, .int (nI i))]) dX12_rate_95 rfl (by decide) rfl ?_
              refine g_iload_n C dX12_rate_96 rfl 0 rfl ?_
              refine g_istore C (lv' := [(4, .int (bc (thOn f i 7))), (3, .int (bc (thOn f i 7))), (0, .ref m0), (1, .int (nI 2)), (2, .int (nI i))]) dX12_rate_97 (by decide) rfl ?_
              refine g_iconst C (nI 0) dX12_rate_99 (by decide) ?_
              refine g_istore C (lv' := [(5, .int (nI 0)), (4, .int (bc (thOn f i 7))), (3, .int (bc (thOn f i 7))), (0, .ref m0), (1, .int (nI 2)), (2, .int (nI i))]) dX12_rate_100 (by decide) rfl ?_
              have L102xx : ∀ (zz k : Nat) (a : Int32), k + zz = 7 + 1 → k ≤ 7 → (a = rt6 f i + tiOn f i (nI 127) k) → G K 0 0 102 [(0, .ref m0), (1, .int (nI 2)), (2, .int (nI i)), (3, .int (bc (thOn f i 7))), (4, .int a), (5, .int (nI k))] [] [(m0, oB 12 [.ref x0, .int (nI n), .int (nI Q.1), .int (nI Q.2.2.1), .int Q.2.1, .int Q.2.2.2, .ref x1, .ref x2, .ref x3, .ref x4, .int (nI und), .ref x5, .ref x6, .int (nI nt), .ref x7, .ref x8, .long (tr + 101), .ref x9]), (x2, iA E 21 (papO T)), (x3, iA E 50 (nowO f))] := by
                intro zz
                induction zz with
                | zero => intro k a hL102xx gL102xx; exfalso; omega
                | succ zz ihL102xx =>
                  intro k a hL102xx gL102xx ha
                  refine g_iload C dX12_rate_102 5 rfl ?_
                  refine g_bipush C (nI 7) dX12_rate_104 (by decide) ?_
                  refine g_icmp_geN C 127 dX12_rate_106 (by decide) (by omega) (by omega) (fun cq11 => ?_) (fun cq11 => ?_)
                  · have hk7 : a = rt3 f i := by rw [ha, show k = 7 by omega, rt3]
                    refine g_iload_n C dX12_rate_127 rfl 3 rfl ?_
                    refine g_aload_n C dX12_rate_128 rfl 0 rfl ?_
                    refine g_iload_n C dX12_rate_129 rfl 2 rfl ?_
                    refine g_callV C (rest := [.int (bc (thOn f i 7))]) (n := 1) (kX12_lieOn l E m0 x0 x1 x2 x3 x4 x5 x6 x7 x8 x9 n und nt (tr + 101) Q T f i (hn) (by omega) (hS)) gX12_rate_X12_lieOn rfl ⟨rfl, rfl⟩ (by decide) (Nat.le_of_ble_eq_true rfl) rfl (by decide +kernel) rfl dX12_rate_130 0 rfl rfl [0, 1, 2] [] rfl rfl ?_
                    refine g_is1 (ws2 := [(m0, oB 12 [.ref x0, .int (nI n), .int (nI Q.1), .int (nI Q.2.2.1), .int Q.2.1, .int Q.2.2.2, .ref x1, .ref x2, .ref x3, .ref x4, .int (nI und), .ref x5, .ref x6, .int (nI nt), .ref x7, .ref x8, .long (tr + 101), .ref x9]), (x2, iA E 21 (papO T)), (x3, iA E 50 (nowO f))]) (st2 := [.int (slOn f i 6), .int (bc (thOn f i 7))]) [0, 1, 2] rfl rfl rfl ?_
                    refine g_callS C (rest := [.int (bc (thOn f i 7))]) (n := 1) (kX12_many l E (slOn f i 6) (slOn_s7 _ _)) gX12_rate_X12_many rfl ⟨rfl, rfl⟩ (by decide) (Nat.le_of_ble_eq_true rfl) rfl (by decide +kernel) rfl dX12_rate_133 [] [0, 1, 2] rfl rfl ?_
                    refine g_is1 (ws2 := [(m0, oB 12 [.ref x0, .int (nI n), .int (nI Q.1), .int (nI Q.2.2.1), .int Q.2.1, .int Q.2.2.2, .ref x1, .ref x2, .ref x3, .ref x4, .int (nI und), .ref x5, .ref x6, .int (nI nt), .ref x7, .ref x8, .long (tr + 101), .ref x9]), (x2, iA E 21 (papO T)), (x3, iA E 50 (nowO f))]) (st2 := [.int (bc (slOn f i 6)), .int (bc (thOn f i 7))]) [0, 1, 2] rfl rfl rfl ?_
                    refine g_isub C dX12_rate_136 ?_
                    refine g_istore C (lv' := [(5, .int ((bc (thOn f i 7)) - (bc (slOn f i 6)))), (0, .ref m0), (1, .int (nI 2)), (2, .int (nI i)), (3, .int (bc (thOn f i 7))), (4, .int a)]) dX12_rate_137 (by decide) rfl ?_
                    refine g_iload_n C dX12_rate_139 rfl 2 rfl ?_
                    refine g_tableIn C 181 dX12_rate_140 (by decide) (by decide) (off := 41) (by decide) (by decide) ?_
                    refine g_iload C dX12_rate_181 0 rfl ?_
                    exact g_iret C X dX12_rate_183 (⟨by unfold ratS; rw [if_pos hy, hcl_i, show (nI 2).toNatClampNeg = 2 from nI_clamp (by decide)]; rfl, by rw [if_pos hy, show (nI 2).toNatClampNeg = 2 from nI_clamp (by decide)]; rfl⟩)
                  · refine g_iload C dX12_rate_109 4 rfl ?_
                    refine g_aload_n C dX12_rate_111 rfl 0 rfl ?_
                    refine g_iload_n C dX12_rate_112 rfl 2 rfl ?_
                    refine g_iload C dX12_rate_113 5 rfl ?_
                    refine g_callV C (rest := [.int a]) (n := 2) (kX12_often l E m0 x0 x1 x2 x3 x4 x5 x6 x7 x8 x9 n und nt (tr + 101) Q f i k (by omega) (by omega)) gX12_rate_X12_often rfl ⟨rfl, rfl⟩ (by decide) (Nat.le_of_ble_eq_true rfl) rfl (by decide +kernel) rfl dX12_rate_115 0 rfl rfl [0, 2] [1] rfl rfl ?_
                    refine g_is1 (ws2 := [(m0, oB 12 [.ref x0, .int (nI n), .int (nI Q.1), .int (nI Q.2.2.1), .int Q.2.1, .int Q.2.2.2, .ref x1, .ref x2, .ref x3, .ref x4, .int (nI und), .ref x5, .ref x6, .int (nI nt), .ref x7, .ref x8, .long (tr + 101), .ref x9]), (x2, iA E 21 (papO T)), (x3, iA E 50 (nowO f))]) (st2 := [.int (f (i * 7 + k)), .int a]) [1, 0, 2] rfl rfl rfl ?_
                    refine g_iadd C dX12_rate_118 ?_
                    refine g_istore C (lv' := [(4, .int (a + (f (i * 7 + k)))), (0, .ref m0), (1, .int (nI 2)), (2, .int (nI i)), (3, .int (bc (thOn f i 7))), (5, .int (nI k))]) dX12_rate_119 (by decide) rfl ?_
                    refine g_iincN C (lv' := [(5, .int (nI (k + 1))), (4, .int (a + (f (i * 7 + k)))), (0, .ref m0), (1, .int (nI 2)), (2, .int (nI i)), (3, .int (bc (thOn f i 7)))]) dX12_rate_121 5 rfl (by decide) rfl ?_
                    refine g_goto C 102 dX12_rate_124 (by decide) ?_
                    refine g_sub (lv' := [(0, .ref m0), (1, .int (nI 2)), (2, .int (nI i)), (3, .int (bc (thOn f i 7))), (4, .int (a + (f (i * 7 + k)))), (5, .int (nI (k + 1)))]) [2, 3, 4, 5, 1, 0] rfl ?_
                    exact ihL102xx (k + 1) (a + (f (i * 7 + k))) (by omega) (by omega) (by rw [tiOn, if_neg (tb127 k (by omega)), ← Int32.add_assoc, ← ha])
              refine g_sub (lv' := [(0, .ref m0), (1, .int (nI 2)), (2, .int (nI i)), (3, .int (bc (thOn f i 7))), (4, .int (bc (thOn f i 7))), (5, .int (nI 0))]) [3, 4, 5, 2, 1, 0] rfl ?_
              exact L102xx (7 + 1 - 0) 0 (bc (thOn f i 7)) (by omega) (by omega) ((addz _).symm)
          · exact absurd cq9 (by decide)
        · exact absurd cq8 (by decide)
      · refine g_aload_n C dX12_rate_23 rfl 0 rfl ?_
        refine g_dup C dX12_rate_24 rfl ?_
        refine g_get C i12 0 rfl rfl 16 (by decide) (List.mem_of_getElem? (i := 3) rfl) rfl rfl dX12_rate_25 ?_
        refine g_iload_n C dX12_rate_28 rfl 1 rfl ?_
        refine g_if_neN C 36 dX12_rate_29 (by decide) (by omega) (fun cq12 => ?_) (fun cq12 => ?_)
        · refine g_iload_n C dX12_rate_36 rfl 1 rfl ?_
          refine g_iconst C (nI 1) dX12_rate_37 (by decide) ?_
          refine g_icmp_neN C 47 dX12_rate_38 (by decide) (by omega) (by omega) (fun cq13 => ?_) (fun cq13 => ?_)
          · refine g_iload_n C dX12_rate_47 rfl 1 rfl ?_
            refine g_iconst C (nI 2) dX12_rate_48 (by decide) ?_
            refine g_icmp_neN C 58 dX12_rate_49 (by decide) (by omega) (by omega) (fun cq14 => ?_) (fun cq14 => ?_)
            · refine g_iload_n C dX12_rate_58 rfl 1 rfl ?_
              refine g_iconst C (nI 3) dX12_rate_59 (by decide) ?_
              refine g_icmp_neN C 69 dX12_rate_60 (by decide) (by omega) (by omega) (fun cq15 => ?_) (fun cq15 => ?_)
              · exact absurd cq15 (by decide)
              · refine g_ldc2 C (v := 1011) (List.mem_of_getElem? (i := 6) rfl) dX12_rate_63 ?_
                refine g_goto C 83 dX12_rate_66 (by decide) ?_
                refine g_ladd C dX12_rate_83 ?_
                refine g_put C i12 tyX12 tyX12_ok nmX12 0 rfl rfl 16 (by decide) (List.mem_of_getElem? (i := 3) rfl) rfl rfl rfl rfl rfl (Nat.le_of_ble_eq_true rfl) dX12_rate_84 (ws' := [(m0, oB 12 [.ref x0, .int (nI n), .int (nI Q.1), .int (nI Q.2.2.1), .int Q.2.1, .int Q.2.2.2, .ref x1, .ref x2, .ref x3, .ref x4, .int (nI und), .ref x5, .ref x6, .int (nI nt), .ref x7, .ref x8, .long (tr + 1011), .ref x9]), (x2, iA E 21 (papO T)), (x3, iA E 50 (nowO f))]) rfl ?_
                refine g_aload_n C dX12_rate_87 rfl 0 rfl ?_
                refine g_iload_n C dX12_rate_88 rfl 2 rfl ?_
                refine g_callV C (rest := []) (n := 1) (kX12_hears l E m0 x0 x1 x2 x3 x4 x5 x6 x7 x8 x9 n und nt (tr + 1011) Q f i (by omega)) gX12_rate_X12_hears rfl ⟨rfl, rfl⟩ (by decide) (Nat.le_of_ble_eq_true rfl) rfl (by decide +kernel) rfl dX12_rate_89 0 rfl rfl [0, 2] [1] rfl rfl ?_
                refine g_is1 (ws2 := [(m0, oB 12 [.ref x0, .int (nI n), .int (nI Q.1), .int (nI Q.2.2.1), .int Q.2.1, .int Q.2.2.2, .ref x1, .ref x2, .ref x3, .ref x4, .int (nI und), .ref x5, .ref x6, .int (nI nt), .ref x7, .ref x8, .long (tr + 1011), .ref x9]), (x2, iA E 21 (papO T)), (x3, iA E 50 (nowO f))]) (st2 := [.int (thOn f i 7)]) [1, 0, 2] rfl rfl rfl ?_
                refine g_callS C (rest := []) (n := 1) (kX12_many l E (thOn f i 7) (thOn_s7 _ _)) gX12_rate_X12_many rfl ⟨rfl, rfl⟩ (by decide) (Nat.le_of_ble_eq_true rfl) rfl (by decide +kernel) rfl dX12_rate_92 [] [0, 1, 2] rfl rfl ?_
                refine g_is1 (ws2 := [(m0, oB 12 [.ref x0, .int (nI n), .int (nI Q.1), .int (nI Q.2.2.1), .int Q.2.1, .int Q.2.2.2, .ref x1, .ref x2, .ref x3, .ref x4, .int (nI und), .ref x5, .ref x6, .int (nI nt), .ref x7, .ref x8, .long (tr + 1011), .ref x9]), (x2, iA E 21 (papO T)), (x3, iA E 50 (nowO f))]) (st2 := [.int (bc (thOn f i 7))]) [0, 1, 2] rfl rfl rfl ?_
                refine g_istore_n C (lv' := [(3, .int (bc (thOn f i 7))), (0, .ref m0), (1, .int (nI 3)), (2, .int (nI i))]) dX12_rate_95 rfl (by decide) rfl ?_
                refine g_iload_n C dX12_rate_96 rfl 0 rfl ?_
                refine g_istore C (lv' := [(4, .int (bc (thOn f i 7))), (3, .int (bc (thOn f i 7))), (0, .ref m0), (1, .int (nI 3)), (2, .int (nI i))]) dX12_rate_97 (by decide) rfl ?_
                refine g_iconst C (nI 0) dX12_rate_99 (by decide) ?_
                refine g_istore C (lv' := [(5, .int (nI 0)), (4, .int (bc (thOn f i 7))), (3, .int (bc (thOn f i 7))), (0, .ref m0), (1, .int (nI 3)), (2, .int (nI i))]) dX12_rate_100 (by decide) rfl ?_
                have L102xxx : ∀ (zz k : Nat) (a : Int32), k + zz = 7 + 1 → k ≤ 7 → (a = rt6 f i + tiOn f i (nI 127) k) → G K 0 0 102 [(0, .ref m0), (1, .int (nI 3)), (2, .int (nI i)), (3, .int (bc (thOn f i 7))), (4, .int a), (5, .int (nI k))] [] [(m0, oB 12 [.ref x0, .int (nI n), .int (nI Q.1), .int (nI Q.2.2.1), .int Q.2.1, .int Q.2.2.2, .ref x1, .ref x2, .ref x3, .ref x4, .int (nI und), .ref x5, .ref x6, .int (nI nt), .ref x7, .ref x8, .long (tr + 1011), .ref x9]), (x2, iA E 21 (papO T)), (x3, iA E 50 (nowO f))] := by
                  intro zz
                  induction zz with
                  | zero => intro k a hL102xxx gL102xxx; exfalso; omega
                  | succ zz ihL102xxx =>
                    intro k a hL102xxx gL102xxx ha
                    refine g_iload C dX12_rate_102 5 rfl ?_
                    refine g_bipush C (nI 7) dX12_rate_104 (by decide) ?_
                    refine g_icmp_geN C 127 dX12_rate_106 (by decide) (by omega) (by omega) (fun cq16 => ?_) (fun cq16 => ?_)
                    · have hk7 : a = rt3 f i := by rw [ha, show k = 7 by omega, rt3]
                      refine g_iload_n C dX12_rate_127 rfl 3 rfl ?_
                      refine g_aload_n C dX12_rate_128 rfl 0 rfl ?_
                      refine g_iload_n C dX12_rate_129 rfl 2 rfl ?_
                      refine g_callV C (rest := [.int (bc (thOn f i 7))]) (n := 1) (kX12_lieOn l E m0 x0 x1 x2 x3 x4 x5 x6 x7 x8 x9 n und nt (tr + 1011) Q T f i (hn) (by omega) (hS)) gX12_rate_X12_lieOn rfl ⟨rfl, rfl⟩ (by decide) (Nat.le_of_ble_eq_true rfl) rfl (by decide +kernel) rfl dX12_rate_130 0 rfl rfl [0, 1, 2] [] rfl rfl ?_
                      refine g_is1 (ws2 := [(m0, oB 12 [.ref x0, .int (nI n), .int (nI Q.1), .int (nI Q.2.2.1), .int Q.2.1, .int Q.2.2.2, .ref x1, .ref x2, .ref x3, .ref x4, .int (nI und), .ref x5, .ref x6, .int (nI nt), .ref x7, .ref x8, .long (tr + 1011), .ref x9]), (x2, iA E 21 (papO T)), (x3, iA E 50 (nowO f))]) (st2 := [.int (slOn f i 6), .int (bc (thOn f i 7))]) [0, 1, 2] rfl rfl rfl ?_
                      refine g_callS C (rest := [.int (bc (thOn f i 7))]) (n := 1) (kX12_many l E (slOn f i 6) (slOn_s7 _ _)) gX12_rate_X12_many rfl ⟨rfl, rfl⟩ (by decide) (Nat.le_of_ble_eq_true rfl) rfl (by decide +kernel) rfl dX12_rate_133 [] [0, 1, 2] rfl rfl ?_
                      refine g_is1 (ws2 := [(m0, oB 12 [.ref x0, .int (nI n), .int (nI Q.1), .int (nI Q.2.2.1), .int Q.2.1, .int Q.2.2.2, .ref x1, .ref x2, .ref x3, .ref x4, .int (nI und), .ref x5, .ref x6, .int (nI nt), .ref x7, .ref x8, .long (tr + 1011), .ref x9]), (x2, iA E 21 (papO T)), (x3, iA E 50 (nowO f))]) (st2 := [.int (bc (slOn f i 6)), .int (bc (thOn f i 7))]) [0, 1, 2] rfl rfl rfl ?_
                      refine g_isub C dX12_rate_136 ?_
                      refine g_istore C (lv' := [(5, .int ((bc (thOn f i 7)) - (bc (slOn f i 6)))), (0, .ref m0), (1, .int (nI 3)), (2, .int (nI i)), (3, .int (bc (thOn f i 7))), (4, .int a)]) dX12_rate_137 (by decide) rfl ?_
                      refine g_iload_n C dX12_rate_139 rfl 2 rfl ?_
                      refine g_tableIn C 184 dX12_rate_140 (by decide) (by decide) (off := 44) (by decide) (by decide) ?_
                      refine g_iconst C (nI 2) dX12_rate_184 (by decide) ?_
                      refine g_iload C dX12_rate_185 5 rfl ?_
                      refine g_imul C dX12_rate_187 ?_
                      exact g_iret C X dX12_rate_188 (⟨by unfold ratS; rw [if_pos hy, hcl_i, show (nI 3).toNatClampNeg = 3 from nI_clamp (by decide)]; exact congrArg (fun z => some (Value.int (nI 2 * z))) hk7, by rw [if_pos hy, show (nI 3).toNatClampNeg = 3 from nI_clamp (by decide)]; rfl⟩)
                    · refine g_iload C dX12_rate_109 4 rfl ?_
                      refine g_aload_n C dX12_rate_111 rfl 0 rfl ?_
                      refine g_iload_n C dX12_rate_112 rfl 2 rfl ?_
                      refine g_iload C dX12_rate_113 5 rfl ?_
                      refine g_callV C (rest := [.int a]) (n := 2) (kX12_often l E m0 x0 x1 x2 x3 x4 x5 x6 x7 x8 x9 n und nt (tr + 1011) Q f i k (by omega) (by omega)) gX12_rate_X12_often rfl ⟨rfl, rfl⟩ (by decide) (Nat.le_of_ble_eq_true rfl) rfl (by decide +kernel) rfl dX12_rate_115 0 rfl rfl [0, 2] [1] rfl rfl ?_
                      refine g_is1 (ws2 := [(m0, oB 12 [.ref x0, .int (nI n), .int (nI Q.1), .int (nI Q.2.2.1), .int Q.2.1, .int Q.2.2.2, .ref x1, .ref x2, .ref x3, .ref x4, .int (nI und), .ref x5, .ref x6, .int (nI nt), .ref x7, .ref x8, .long (tr + 1011), .ref x9]), (x2, iA E 21 (papO T)), (x3, iA E 50 (nowO f))]) (st2 := [.int (f (i * 7 + k)), .int a]) [1, 0, 2] rfl rfl rfl ?_
                      refine g_iadd C dX12_rate_118 ?_
                      refine g_istore C (lv' := [(4, .int (a + (f (i * 7 + k)))), (0, .ref m0), (1, .int (nI 3)), (2, .int (nI i)), (3, .int (bc (thOn f i 7))), (5, .int (nI k))]) dX12_rate_119 (by decide) rfl ?_
                      refine g_iincN C (lv' := [(5, .int (nI (k + 1))), (4, .int (a + (f (i * 7 + k)))), (0, .ref m0), (1, .int (nI 3)), (2, .int (nI i)), (3, .int (bc (thOn f i 7)))]) dX12_rate_121 5 rfl (by decide) rfl ?_
                      refine g_goto C 102 dX12_rate_124 (by decide) ?_
                      refine g_sub (lv' := [(0, .ref m0), (1, .int (nI 3)), (2, .int (nI i)), (3, .int (bc (thOn f i 7))), (4, .int (a + (f (i * 7 + k)))), (5, .int (nI (k + 1)))]) [2, 3, 4, 5, 1, 0] rfl ?_
                      exact ihL102xxx (k + 1) (a + (f (i * 7 + k))) (by omega) (by omega) (by rw [tiOn, if_neg (tb127 k (by omega)), ← Int32.add_assoc, ← ha])
                refine g_sub (lv' := [(0, .ref m0), (1, .int (nI 3)), (2, .int (nI i)), (3, .int (bc (thOn f i 7))), (4, .int (bc (thOn f i 7))), (5, .int (nI 0))]) [3, 4, 5, 2, 1, 0] rfl ?_
                exact L102xxx (7 + 1 - 0) 0 (bc (thOn f i 7)) (by omega) (by omega) ((addz _).symm)
            · exact absurd cq14 (by decide)
          · exact absurd cq13 (by decide)
        · exact absurd cq12 (by decide)
      · refine g_aload_n C dX12_rate_23 rfl 0 rfl ?_
        refine g_dup C dX12_rate_24 rfl ?_
        refine g_get C i12 0 rfl rfl 16 (by decide) (List.mem_of_getElem? (i := 3) rfl) rfl rfl dX12_rate_25 ?_
        refine g_iload_n C dX12_rate_28 rfl 1 rfl ?_
        refine g_if_neN C 36 dX12_rate_29 (by decide) (by omega) (fun cq17 => ?_) (fun cq17 => ?_)
        · refine g_iload_n C dX12_rate_36 rfl 1 rfl ?_
          refine g_iconst C (nI 1) dX12_rate_37 (by decide) ?_
          refine g_icmp_neN C 47 dX12_rate_38 (by decide) (by omega) (by omega) (fun cq18 => ?_) (fun cq18 => ?_)
          · refine g_iload_n C dX12_rate_47 rfl 1 rfl ?_
            refine g_iconst C (nI 2) dX12_rate_48 (by decide) ?_
            refine g_icmp_neN C 58 dX12_rate_49 (by decide) (by omega) (by omega) (fun cq19 => ?_) (fun cq19 => ?_)
            · refine g_iload_n C dX12_rate_58 rfl 1 rfl ?_
              refine g_iconst C (nI 3) dX12_rate_59 (by decide) ?_
              refine g_icmp_neN C 69 dX12_rate_60 (by decide) (by omega) (by omega) (fun cq20 => ?_) (fun cq20 => ?_)
              · refine g_iload_n C dX12_rate_69 rfl 1 rfl ?_
                refine g_iconst C (nI 4) dX12_rate_70 (by decide) ?_
                refine g_icmp_neN C 80 dX12_rate_71 (by decide) (by omega) (by omega) (fun cq21 => ?_) (fun cq21 => ?_)
                · exact absurd cq21 (by decide)
                · refine g_ldc2 C (v := 10101) (List.mem_of_getElem? (i := 7) rfl) dX12_rate_74 ?_
                  refine g_goto C 83 dX12_rate_77 (by decide) ?_
                  refine g_ladd C dX12_rate_83 ?_
                  refine g_put C i12 tyX12 tyX12_ok nmX12 0 rfl rfl 16 (by decide) (List.mem_of_getElem? (i := 3) rfl) rfl rfl rfl rfl rfl (Nat.le_of_ble_eq_true rfl) dX12_rate_84 (ws' := [(m0, oB 12 [.ref x0, .int (nI n), .int (nI Q.1), .int (nI Q.2.2.1), .int Q.2.1, .int Q.2.2.2, .ref x1, .ref x2, .ref x3, .ref x4, .int (nI und), .ref x5, .ref x6, .int (nI nt), .ref x7, .ref x8, .long (tr + 10101), .ref x9]), (x2, iA E 21 (papO T)), (x3, iA E 50 (nowO f))]) rfl ?_
                  refine g_aload_n C dX12_rate_87 rfl 0 rfl ?_
                  refine g_iload_n C dX12_rate_88 rfl 2 rfl ?_
                  refine g_callV C (rest := []) (n := 1) (kX12_hears l E m0 x0 x1 x2 x3 x4 x5 x6 x7 x8 x9 n und nt (tr + 10101) Q f i (by omega)) gX12_rate_X12_hears rfl ⟨rfl, rfl⟩ (by decide) (Nat.le_of_ble_eq_true rfl) rfl (by decide +kernel) rfl dX12_rate_89 0 rfl rfl [0, 2] [1] rfl rfl ?_
                  refine g_is1 (ws2 := [(m0, oB 12 [.ref x0, .int (nI n), .int (nI Q.1), .int (nI Q.2.2.1), .int Q.2.1, .int Q.2.2.2, .ref x1, .ref x2, .ref x3, .ref x4, .int (nI und), .ref x5, .ref x6, .int (nI nt), .ref x7, .ref x8, .long (tr + 10101), .ref x9]), (x2, iA E 21 (papO T)), (x3, iA E 50 (nowO f))]) (st2 := [.int (thOn f i 7)]) [1, 0, 2] rfl rfl rfl ?_
                  refine g_callS C (rest := []) (n := 1) (kX12_many l E (thOn f i 7) (thOn_s7 _ _)) gX12_rate_X12_many rfl ⟨rfl, rfl⟩ (by decide) (Nat.le_of_ble_eq_true rfl) rfl (by decide +kernel) rfl dX12_rate_92 [] [0, 1, 2] rfl rfl ?_
                  refine g_is1 (ws2 := [(m0, oB 12 [.ref x0, .int (nI n), .int (nI Q.1), .int (nI Q.2.2.1), .int Q.2.1, .int Q.2.2.2, .ref x1, .ref x2, .ref x3, .ref x4, .int (nI und), .ref x5, .ref x6, .int (nI nt), .ref x7, .ref x8, .long (tr + 10101), .ref x9]), (x2, iA E 21 (papO T)), (x3, iA E 50 (nowO f))]) (st2 := [.int (bc (thOn f i 7))]) [0, 1, 2] rfl rfl rfl ?_
                  refine g_istore_n C (lv' := [(3, .int (bc (thOn f i 7))), (0, .ref m0), (1, .int (nI 4)), (2, .int (nI i))]) dX12_rate_95 rfl (by decide) rfl ?_
                  refine g_iload_n C dX12_rate_96 rfl 0 rfl ?_
                  refine g_istore C (lv' := [(4, .int (bc (thOn f i 7))), (3, .int (bc (thOn f i 7))), (0, .ref m0), (1, .int (nI 4)), (2, .int (nI i))]) dX12_rate_97 (by decide) rfl ?_
                  refine g_iconst C (nI 0) dX12_rate_99 (by decide) ?_
                  refine g_istore C (lv' := [(5, .int (nI 0)), (4, .int (bc (thOn f i 7))), (3, .int (bc (thOn f i 7))), (0, .ref m0), (1, .int (nI 4)), (2, .int (nI i))]) dX12_rate_100 (by decide) rfl ?_
                  have L102xxxx : ∀ (zz k : Nat) (a : Int32), k + zz = 7 + 1 → k ≤ 7 → (a = rt6 f i + tiOn f i (nI 127) k) → G K 0 0 102 [(0, .ref m0), (1, .int (nI 4)), (2, .int (nI i)), (3, .int (bc (thOn f i 7))), (4, .int a), (5, .int (nI k))] [] [(m0, oB 12 [.ref x0, .int (nI n), .int (nI Q.1), .int (nI Q.2.2.1), .int Q.2.1, .int Q.2.2.2, .ref x1, .ref x2, .ref x3, .ref x4, .int (nI und), .ref x5, .ref x6, .int (nI nt), .ref x7, .ref x8, .long (tr + 10101), .ref x9]), (x2, iA E 21 (papO T)), (x3, iA E 50 (nowO f))] := by
                    intro zz
                    induction zz with
                    | zero => intro k a hL102xxxx gL102xxxx; exfalso; omega
                    | succ zz ihL102xxxx =>
                      intro k a hL102xxxx gL102xxxx ha
                      refine g_iload C dX12_rate_102 5 rfl ?_
                      refine g_bipush C (nI 7) dX12_rate_104 (by decide) ?_
                      refine g_icmp_geN C 127 dX12_rate_106 (by decide) (by omega) (by omega) (fun cq22 => ?_) (fun cq22 => ?_)
                      · have hk7 : a = rt3 f i := by rw [ha, show k = 7 by omega, rt3]
                        refine g_iload_n C dX12_rate_127 rfl 3 rfl ?_
                        refine g_aload_n C dX12_rate_128 rfl 0 rfl ?_
                        refine g_iload_n C dX12_rate_129 rfl 2 rfl ?_
                        refine g_callV C (rest := [.int (bc (thOn f i 7))]) (n := 1) (kX12_lieOn l E m0 x0 x1 x2 x3 x4 x5 x6 x7 x8 x9 n und nt (tr + 10101) Q T f i (hn) (by omega) (hS)) gX12_rate_X12_lieOn rfl ⟨rfl, rfl⟩ (by decide) (Nat.le_of_ble_eq_true rfl) rfl (by decide +kernel) rfl dX12_rate_130 0 rfl rfl [0, 1, 2] [] rfl rfl ?_
                        refine g_is1 (ws2 := [(m0, oB 12 [.ref x0, .int (nI n), .int (nI Q.1), .int (nI Q.2.2.1), .int Q.2.1, .int Q.2.2.2, .ref x1, .ref x2, .ref x3, .ref x4, .int (nI und), .ref x5, .ref x6, .int (nI nt), .ref x7, .ref x8, .long (tr + 10101), .ref x9]), (x2, iA E 21 (papO T)), (x3, iA E 50 (nowO f))]) (st2 := [.int (slOn f i 6), .int (bc (thOn f i 7))]) [0, 1, 2] rfl rfl rfl ?_
                        refine g_callS C (rest := [.int (bc (thOn f i 7))]) (n := 1) (kX12_many l E (slOn f i 6) (slOn_s7 _ _)) gX12_rate_X12_many rfl ⟨rfl, rfl⟩ (by decide) (Nat.le_of_ble_eq_true rfl) rfl (by decide +kernel) rfl dX12_rate_133 [] [0, 1, 2] rfl rfl ?_
                        refine g_is1 (ws2 := [(m0, oB 12 [.ref x0, .int (nI n), .int (nI Q.1), .int (nI Q.2.2.1), .int Q.2.1, .int Q.2.2.2, .ref x1, .ref x2, .ref x3, .ref x4, .int (nI und), .ref x5, .ref x6, .int (nI nt), .ref x7, .ref x8, .long (tr + 10101), .ref x9]), (x2, iA E 21 (papO T)), (x3, iA E 50 (nowO f))]) (st2 := [.int (bc (slOn f i 6)), .int (bc (thOn f i 7))]) [0, 1, 2] rfl rfl rfl ?_
                        refine g_isub C dX12_rate_136 ?_
                        refine g_istore C (lv' := [(5, .int ((bc (thOn f i 7)) - (bc (slOn f i 6)))), (0, .ref m0), (1, .int (nI 4)), (2, .int (nI i)), (3, .int (bc (thOn f i 7))), (4, .int a)]) dX12_rate_137 (by decide) rfl ?_
                        refine g_iload_n C dX12_rate_139 rfl 2 rfl ?_
                        refine g_tableIn C 189 dX12_rate_140 (by decide) (by decide) (off := 49) (by decide) (by decide) ?_
                        refine g_iload C dX12_rate_189 0 rfl ?_
                        refine g_iload_n C dX12_rate_191 rfl 3 rfl ?_
                        refine g_iadd C dX12_rate_192 ?_
                        exact g_iret C X dX12_rate_193 (⟨by unfold ratS; rw [if_pos hy, hcl_i, show (nI 4).toNatClampNeg = 4 from nI_clamp (by decide)]; rfl, by rw [if_pos hy, show (nI 4).toNatClampNeg = 4 from nI_clamp (by decide)]; rfl⟩)
                      · refine g_iload C dX12_rate_109 4 rfl ?_
                        refine g_aload_n C dX12_rate_111 rfl 0 rfl ?_
                        refine g_iload_n C dX12_rate_112 rfl 2 rfl ?_
                        refine g_iload C dX12_rate_113 5 rfl ?_
                        refine g_callV C (rest := [.int a]) (n := 2) (kX12_often l E m0 x0 x1 x2 x3 x4 x5 x6 x7 x8 x9 n und nt (tr + 10101) Q f i k (by omega) (by omega)) gX12_rate_X12_often rfl ⟨rfl, rfl⟩ (by decide) (Nat.le_of_ble_eq_true rfl) rfl (by decide +kernel) rfl dX12_rate_115 0 rfl rfl [0, 2] [1] rfl rfl ?_
                        refine g_is1 (ws2 := [(m0, oB 12 [.ref x0, .int (nI n), .int (nI Q.1), .int (nI Q.2.2.1), .int Q.2.1, .int Q.2.2.2, .ref x1, .ref x2, .ref x3, .ref x4, .int (nI und), .ref x5, .ref x6, .int (nI nt), .ref x7, .ref x8, .long (tr + 10101), .ref x9]), (x2, iA E 21 (papO T)), (x3, iA E 50 (nowO f))]) (st2 := [.int (f (i * 7 + k)), .int a]) [1, 0, 2] rfl rfl rfl ?_
                        refine g_iadd C dX12_rate_118 ?_
                        refine g_istore C (lv' := [(4, .int (a + (f (i * 7 + k)))), (0, .ref m0), (1, .int (nI 4)), (2, .int (nI i)), (3, .int (bc (thOn f i 7))), (5, .int (nI k))]) dX12_rate_119 (by decide) rfl ?_
                        refine g_iincN C (lv' := [(5, .int (nI (k + 1))), (4, .int (a + (f (i * 7 + k)))), (0, .ref m0), (1, .int (nI 4)), (2, .int (nI i)), (3, .int (bc (thOn f i 7)))]) dX12_rate_121 5 rfl (by decide) rfl ?_
                        refine g_goto C 102 dX12_rate_124 (by decide) ?_
                        refine g_sub (lv' := [(0, .ref m0), (1, .int (nI 4)), (2, .int (nI i)), (3, .int (bc (thOn f i 7))), (4, .int (a + (f (i * 7 + k)))), (5, .int (nI (k + 1)))]) [2, 3, 4, 5, 1, 0] rfl ?_
                        exact ihL102xxxx (k + 1) (a + (f (i * 7 + k))) (by omega) (by omega) (by rw [tiOn, if_neg (tb127 k (by omega)), ← Int32.add_assoc, ← ha])
                  refine g_sub (lv' := [(0, .ref m0), (1, .int (nI 4)), (2, .int (nI i)), (3, .int (bc (thOn f i 7))), (4, .int (bc (thOn f i 7))), (5, .int (nI 0))]) [3, 4, 5, 2, 1, 0] rfl ?_
                  exact L102xxxx (7 + 1 - 0) 0 (bc (thOn f i 7)) (by omega) (by omega) ((addz _).symm)
              · exact absurd cq20 (by decide)
            · exact absurd cq19 (by decide)
          · exact absurd cq18 (by decide)
        · exact absurd cq17 (by decide)
      · refine g_aload_n C dX12_rate_23 rfl 0 rfl ?_
        refine g_dup C dX12_rate_24 rfl ?_
        refine g_get C i12 0 rfl rfl 16 (by decide) (List.mem_of_getElem? (i := 3) rfl) rfl rfl dX12_rate_25 ?_
        refine g_iload_n C dX12_rate_28 rfl 1 rfl ?_
        refine g_if_neN C 36 dX12_rate_29 (by decide) (by omega) (fun cq23 => ?_) (fun cq23 => ?_)
        · refine g_iload_n C dX12_rate_36 rfl 1 rfl ?_
          refine g_iconst C (nI 1) dX12_rate_37 (by decide) ?_
          refine g_icmp_neN C 47 dX12_rate_38 (by decide) (by omega) (by omega) (fun cq24 => ?_) (fun cq24 => ?_)
          · refine g_iload_n C dX12_rate_47 rfl 1 rfl ?_
            refine g_iconst C (nI 2) dX12_rate_48 (by decide) ?_
            refine g_icmp_neN C 58 dX12_rate_49 (by decide) (by omega) (by omega) (fun cq25 => ?_) (fun cq25 => ?_)
            · refine g_iload_n C dX12_rate_58 rfl 1 rfl ?_
              refine g_iconst C (nI 3) dX12_rate_59 (by decide) ?_
              refine g_icmp_neN C 69 dX12_rate_60 (by decide) (by omega) (by omega) (fun cq26 => ?_) (fun cq26 => ?_)
              · refine g_iload_n C dX12_rate_69 rfl 1 rfl ?_
                refine g_iconst C (nI 4) dX12_rate_70 (by decide) ?_
                refine g_icmp_neN C 80 dX12_rate_71 (by decide) (by omega) (by omega) (fun cq27 => ?_) (fun cq27 => ?_)
                · refine g_ldc2 C (v := 100001) (List.mem_of_getElem? (i := 8) rfl) dX12_rate_80 ?_
                  refine g_ladd C dX12_rate_83 ?_
                  refine g_put C i12 tyX12 tyX12_ok nmX12 0 rfl rfl 16 (by decide) (List.mem_of_getElem? (i := 3) rfl) rfl rfl rfl rfl rfl (Nat.le_of_ble_eq_true rfl) dX12_rate_84 (ws' := [(m0, oB 12 [.ref x0, .int (nI n), .int (nI Q.1), .int (nI Q.2.2.1), .int Q.2.1, .int Q.2.2.2, .ref x1, .ref x2, .ref x3, .ref x4, .int (nI und), .ref x5, .ref x6, .int (nI nt), .ref x7, .ref x8, .long (tr + 100001), .ref x9]), (x2, iA E 21 (papO T)), (x3, iA E 50 (nowO f))]) rfl ?_
                  refine g_aload_n C dX12_rate_87 rfl 0 rfl ?_
                  refine g_iload_n C dX12_rate_88 rfl 2 rfl ?_
                  refine g_callV C (rest := []) (n := 1) (kX12_hears l E m0 x0 x1 x2 x3 x4 x5 x6 x7 x8 x9 n und nt (tr + 100001) Q f i (by omega)) gX12_rate_X12_hears rfl ⟨rfl, rfl⟩ (by decide) (Nat.le_of_ble_eq_true rfl) rfl (by decide +kernel) rfl dX12_rate_89 0 rfl rfl [0, 2] [1] rfl rfl ?_
                  refine g_is1 (ws2 := [(m0, oB 12 [.ref x0, .int (nI n), .int (nI Q.1), .int (nI Q.2.2.1), .int Q.2.1, .int Q.2.2.2, .ref x1, .ref x2, .ref x3, .ref x4, .int (nI und), .ref x5, .ref x6, .int (nI nt), .ref x7, .ref x8, .long (tr + 100001), .ref x9]), (x2, iA E 21 (papO T)), (x3, iA E 50 (nowO f))]) (st2 := [.int (thOn f i 7)]) [1, 0, 2] rfl rfl rfl ?_
                  refine g_callS C (rest := []) (n := 1) (kX12_many l E (thOn f i 7) (thOn_s7 _ _)) gX12_rate_X12_many rfl ⟨rfl, rfl⟩ (by decide) (Nat.le_of_ble_eq_true rfl) rfl (by decide +kernel) rfl dX12_rate_92 [] [0, 1, 2] rfl rfl ?_
                  refine g_is1 (ws2 := [(m0, oB 12 [.ref x0, .int (nI n), .int (nI Q.1), .int (nI Q.2.2.1), .int Q.2.1, .int Q.2.2.2, .ref x1, .ref x2, .ref x3, .ref x4, .int (nI und), .ref x5, .ref x6, .int (nI nt), .ref x7, .ref x8, .long (tr + 100001), .ref x9]), (x2, iA E 21 (papO T)), (x3, iA E 50 (nowO f))]) (st2 := [.int (bc (thOn f i 7))]) [0, 1, 2] rfl rfl rfl ?_
                  refine g_istore_n C (lv' := [(3, .int (bc (thOn f i 7))), (0, .ref m0), (1, .int (nI 5)), (2, .int (nI i))]) dX12_rate_95 rfl (by decide) rfl ?_
                  refine g_iload_n C dX12_rate_96 rfl 0 rfl ?_
                  refine g_istore C (lv' := [(4, .int (bc (thOn f i 7))), (3, .int (bc (thOn f i 7))), (0, .ref m0), (1, .int (nI 5)), (2, .int (nI i))]) dX12_rate_97 (by decide) rfl ?_
                  refine g_iconst C (nI 0) dX12_rate_99 (by decide) ?_
                  refine g_istore C (lv' := [(5, .int (nI 0)), (4, .int (bc (thOn f i 7))), (3, .int (bc (thOn f i 7))), (0, .ref m0), (1, .int (nI 5)), (2, .int (nI i))]) dX12_rate_100 (by decide) rfl ?_
                  have L102xxxxx : ∀ (zz k : Nat) (a : Int32), k + zz = 7 + 1 → k ≤ 7 → (a = rt6 f i + tiOn f i (nI 127) k) → G K 0 0 102 [(0, .ref m0), (1, .int (nI 5)), (2, .int (nI i)), (3, .int (bc (thOn f i 7))), (4, .int a), (5, .int (nI k))] [] [(m0, oB 12 [.ref x0, .int (nI n), .int (nI Q.1), .int (nI Q.2.2.1), .int Q.2.1, .int Q.2.2.2, .ref x1, .ref x2, .ref x3, .ref x4, .int (nI und), .ref x5, .ref x6, .int (nI nt), .ref x7, .ref x8, .long (tr + 100001), .ref x9]), (x2, iA E 21 (papO T)), (x3, iA E 50 (nowO f))] := by
                    intro zz
                    induction zz with
                    | zero => intro k a hL102xxxxx gL102xxxxx; exfalso; omega
                    | succ zz ihL102xxxxx =>
                      intro k a hL102xxxxx gL102xxxxx ha
                      refine g_iload C dX12_rate_102 5 rfl ?_
                      refine g_bipush C (nI 7) dX12_rate_104 (by decide) ?_
                      refine g_icmp_geN C 127 dX12_rate_106 (by decide) (by omega) (by omega) (fun cq28 => ?_) (fun cq28 => ?_)
                      · have hk7 : a = rt3 f i := by rw [ha, show k = 7 by omega, rt3]
                        refine g_iload_n C dX12_rate_127 rfl 3 rfl ?_
                        refine g_aload_n C dX12_rate_128 rfl 0 rfl ?_
                        refine g_iload_n C dX12_rate_129 rfl 2 rfl ?_
                        refine g_callV C (rest := [.int (bc (thOn f i 7))]) (n := 1) (kX12_lieOn l E m0 x0 x1 x2 x3 x4 x5 x6 x7 x8 x9 n und nt (tr + 100001) Q T f i (hn) (by omega) (hS)) gX12_rate_X12_lieOn rfl ⟨rfl, rfl⟩ (by decide) (Nat.le_of_ble_eq_true rfl) rfl (by decide +kernel) rfl dX12_rate_130 0 rfl rfl [0, 1, 2] [] rfl rfl ?_
                        refine g_is1 (ws2 := [(m0, oB 12 [.ref x0, .int (nI n), .int (nI Q.1), .int (nI Q.2.2.1), .int Q.2.1, .int Q.2.2.2, .ref x1, .ref x2, .ref x3, .ref x4, .int (nI und), .ref x5, .ref x6, .int (nI nt), .ref x7, .ref x8, .long (tr + 100001), .ref x9]), (x2, iA E 21 (papO T)), (x3, iA E 50 (nowO f))]) (st2 := [.int (slOn f i 6), .int (bc (thOn f i 7))]) [0, 1, 2] rfl rfl rfl ?_
                        refine g_callS C (rest := [.int (bc (thOn f i 7))]) (n := 1) (kX12_many l E (slOn f i 6) (slOn_s7 _ _)) gX12_rate_X12_many rfl ⟨rfl, rfl⟩ (by decide) (Nat.le_of_ble_eq_true rfl) rfl (by decide +kernel) rfl dX12_rate_133 [] [0, 1, 2] rfl rfl ?_
                        refine g_is1 (ws2 := [(m0, oB 12 [.ref x0, .int (nI n), .int (nI Q.1), .int (nI Q.2.2.1), .int Q.2.1, .int Q.2.2.2, .ref x1, .ref x2, .ref x3, .ref x4, .int (nI und), .ref x5, .ref x6, .int (nI nt), .ref x7, .ref x8, .long (tr + 100001), .ref x9]), (x2, iA E 21 (papO T)), (x3, iA E 50 (nowO f))]) (st2 := [.int (bc (slOn f i 6)), .int (bc (thOn f i 7))]) [0, 1, 2] rfl rfl rfl ?_
                        refine g_isub C dX12_rate_136 ?_
                        refine g_istore C (lv' := [(5, .int ((bc (thOn f i 7)) - (bc (slOn f i 6)))), (0, .ref m0), (1, .int (nI 5)), (2, .int (nI i)), (3, .int (bc (thOn f i 7))), (4, .int a)]) dX12_rate_137 (by decide) rfl ?_
                        refine g_iload_n C dX12_rate_139 rfl 2 rfl ?_
                        refine g_tableOut C 194 dX12_rate_140 (by decide) (by decide) ?_
                        refine g_iload_n C dX12_rate_194 rfl 4 rfl ?_
                        refine g_aload_n C dX12_rate_195 rfl 1 rfl ?_
                        refine g_get C i12 0 rfl rfl 8 (by decide) (List.mem_of_getElem? (i := 9) rfl) rfl rfl dX12_rate_196 ?_
                        refine g_iconst C (nI 0) dX12_rate_199 (by decide) ?_
                        refine g_iald C 2 rfl (by omega) (by decide) dX12_rate_200 ?_
                        refine g_as (nowO_0 _) ?_
                        refine g_iadd C dX12_rate_201 ?_
                        exact g_iret C X dX12_rate_202 (⟨by unfold ratS; rw [if_pos hy, hcl_i, show (nI 5).toNatClampNeg = 5 from nI_clamp (by decide)]; rfl, by rw [if_pos hy, show (nI 5).toNatClampNeg = 5 from nI_clamp (by decide)]; rfl⟩)
                      · refine g_iload C dX12_rate_109 4 rfl ?_
                        refine g_aload_n C dX12_rate_111 rfl 0 rfl ?_
                        refine g_iload_n C dX12_rate_112 rfl 2 rfl ?_
                        refine g_iload C dX12_rate_113 5 rfl ?_
                        refine g_callV C (rest := [.int a]) (n := 2) (kX12_often l E m0 x0 x1 x2 x3 x4 x5 x6 x7 x8 x9 n und nt (tr + 100001) Q f i k (by omega) (by omega)) gX12_rate_X12_often rfl ⟨rfl, rfl⟩ (by decide) (Nat.le_of_ble_eq_true rfl) rfl (by decide +kernel) rfl dX12_rate_115 0 rfl rfl [0, 2] [1] rfl rfl ?_
                        refine g_is1 (ws2 := [(m0, oB 12 [.ref x0, .int (nI n), .int (nI Q.1), .int (nI Q.2.2.1), .int Q.2.1, .int Q.2.2.2, .ref x1, .ref x2, .ref x3, .ref x4, .int (nI und), .ref x5, .ref x6, .int (nI nt), .ref x7, .ref x8, .long (tr + 100001), .ref x9]), (x2, iA E 21 (papO T)), (x3, iA E 50 (nowO f))]) (st2 := [.int (f (i * 7 + k)), .int a]) [1, 0, 2] rfl rfl rfl ?_
                        refine g_iadd C dX12_rate_118 ?_
                        refine g_istore C (lv' := [(4, .int (a + (f (i * 7 + k)))), (0, .ref m0), (1, .int (nI 5)), (2, .int (nI i)), (3, .int (bc (thOn f i 7))), (5, .int (nI k))]) dX12_rate_119 (by decide) rfl ?_
                        refine g_iincN C (lv' := [(5, .int (nI (k + 1))), (4, .int (a + (f (i * 7 + k)))), (0, .ref m0), (1, .int (nI 5)), (2, .int (nI i)), (3, .int (bc (thOn f i 7)))]) dX12_rate_121 5 rfl (by decide) rfl ?_
                        refine g_goto C 102 dX12_rate_124 (by decide) ?_
                        refine g_sub (lv' := [(0, .ref m0), (1, .int (nI 5)), (2, .int (nI i)), (3, .int (bc (thOn f i 7))), (4, .int (a + (f (i * 7 + k)))), (5, .int (nI (k + 1)))]) [2, 3, 4, 5, 1, 0] rfl ?_
                        exact ihL102xxxxx (k + 1) (a + (f (i * 7 + k))) (by omega) (by omega) (by rw [tiOn, if_neg (tb127 k (by omega)), ← Int32.add_assoc, ← ha])
                  refine g_sub (lv' := [(0, .ref m0), (1, .int (nI 5)), (2, .int (nI i)), (3, .int (bc (thOn f i 7))), (4, .int (bc (thOn f i 7))), (5, .int (nI 0))]) [3, 4, 5, 2, 1, 0] rfl ?_
                  exact L102xxxxx (7 + 1 - 0) 0 (bc (thOn f i 7)) (by omega) (by omega) ((addz _).symm)
                · exact absurd cq27 (by decide)
              · exact absurd cq26 (by decide)
            · exact absurd cq25 (by decide)
          · exact absurd cq24 (by decide)
        · exact absurd cq23 (by decide)
    · have hno : ¬ ratO T.2.1 kd q := fun w => cq2 w.2
      refine g_ldc C (v := (-1000000)) (List.mem_of_getElem? (i := 2) rfl) dX12_rate_20 ?_
      exact g_iret C X dX12_rate_22 (⟨by unfold ratS; rw [if_neg hno], by rw [if_neg hno]⟩)
