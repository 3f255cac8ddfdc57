/-! the reference: numbers in a range, the text's tokens, items -/
abbrev inL (v lo hi : Int64) : Prop := ¬ v < lo ∧ ¬ hi < v
theorem lgc_lt (x y : Int64) : lg_cmp x y < 0 ↔ x < y := by
  unfold lg_cmp
  by_cases h1 : y < x
  · rw [if_pos h1]; exact ⟨fun h => absurd h (by decide), fun h => absurd h (Int64.not_lt.mpr (Int64.le_of_lt h1))⟩
  · rw [if_neg h1]
    by_cases h2 : x = y
    · rw [if_pos h2]; subst h2; exact ⟨fun h => absurd h (by decide), fun h => absurd h Int64.lt_irrefl⟩
    · rw [if_neg h2]; exact ⟨fun _ => Int64.lt_of_le_of_ne (Int64.not_lt.mp h1) h2, fun _ => by decide⟩
theorem lgc_gt (x y : Int64) : 0 < lg_cmp x y ↔ y < x := by
  unfold lg_cmp
  by_cases h1 : y < x
  · rw [if_pos h1]; exact ⟨fun _ => h1, fun _ => by decide⟩
  · rw [if_neg h1]
    by_cases h2 : x = y
    · rw [if_pos h2]; exact ⟨fun h => absurd h (by decide), fun h => absurd h h1⟩
    · rw [if_neg h2]; exact ⟨fun h => absurd h (by decide), fun h => absurd h h1⟩
theorem wide_lt (a b : Int32) : a.toInt64 < b.toInt64 ↔ a < b := by rw [Int64.lt_iff_toInt_lt, Int32.lt_iff_toInt_lt, Int32.toInt_toInt64, Int32.toInt_toInt64]
theorem bI_congr {a b : Prop} [Decidable a] [Decidable b] (h : a ↔ b) : bI a = bI b := by
  by_cases ha : a
  · rw [bI_t ha, bI_t (h.mp ha)]
  · rw [bI_f ha, bI_f (fun z => ha (h.mpr z))]
theorem inL_nI (x : Int32) {N : Nat} (hN : N + 1 < 2 ^ 31) {L : Int64} (hL : L = (nI N).toInt64) : inL x.toInt64 0 L ↔ inR x (N + 1) := by
  subst hL
  show (¬ x.toInt64 < (0 : Int32).toInt64 ∧ ¬ (nI N).toInt64 < x.toInt64) ↔ _
  rw [wide_lt, wide_lt]
  refine and_congr_right (fun h0 => not_congr ?_)
  obtain ⟨j, hj, rfl⟩ := nI_of h0
  rw [nI_ltI (by omega) hj, nI_leI (by omega) hj]
  exact Iff.rfl
theorem inL_zo (x : Int32) : inL x.toInt64 0 1 ↔ zo x := by
  rw [inL_nI x (N := 1) (by decide) (by decide)]
  constructor
  · intro h
    obtain ⟨j, hj, rfl⟩ := inR_of (by decide) h
    rcases (show j = 0 ∨ j = 1 by omega) with rfl | rfl
    · exact Or.inl rfl
    · exact Or.inr rfl
  · intro h
    rcases h with rfl | rfl <;> decide
theorem inL_sub (x : Int32) {N : Nat} (hN : N < 2 ^ 30) : inL x.toInt64 0 (nI N - nI 1).toInt64 ↔ inR x N := by
  rcases N with _ | N
  · show (¬ x.toInt64 < (0 : Int32).toInt64 ∧ ¬ (nI 0 - nI 1).toInt64 < x.toInt64) ↔ _
    rw [wide_lt, wide_lt]
    constructor
    · intro h
      obtain ⟨j, hj, rfl⟩ := nI_of h.1
      exact absurd (Int32.lt_of_lt_of_le (show nI 0 - nI 1 < 0 by decide) (nI_pos' hj)) h.2
    · intro h
      obtain ⟨j, hj, rfl⟩ := nI_of h.1
      exact absurd (nI_le (Nat.zero_le j) hj) h.2
  · rw [nI_prd]
    exact inL_nI x (by omega) rfl
theorem inL_fig (x : Int32) : inL x.toInt64 48 57 ↔ dig x := by
  show (¬ x.toInt64 < (nI 48).toInt64 ∧ ¬ (nI 57).toInt64 < x.toInt64) ↔ _
  rw [wide_lt, wide_lt]
def tokR (c : Int32) : Int32 := if c = nI 113 ∨ c = nI 112 ∨ c = nI 120 then nI 1 else if c = nI 59 then nI 3 else nI 4
theorem tokR_1 {c : Int32} (h : c = nI 113 ∨ c = nI 112 ∨ c = nI 120) : tokR c = nI 1 := if_pos h
theorem tokR_3 {c : Int32} (h1 : ¬ c = nI 113) (h2 : ¬ c = nI 112) (h3 : ¬ c = nI 120) (h : c = nI 59) : tokR c = nI 3 := by unfold tokR; rw [if_neg (fun z => z.elim h1 (fun z => z.elim h2 h3)), if_pos h]
theorem tokR_4 {c : Int32} (h1 : ¬ c = nI 113) (h2 : ¬ c = nI 112) (h3 : ¬ c = nI 120) (h : ¬ c = nI 59) : tokR c = nI 4 := by unfold tokR; rw [if_neg (fun z => z.elim h1 (fun z => z.elim h2 h3)), if_neg h]
def numR (tx : Nat → Int32) (p : Nat) (r : Nat × Int32) : Int32 := if (1 < r.1 - p ∧ tx p = nI 48) ∨ ¬ r.2 ≤ nI 127 then nI 4 else nI 2
def rdv (tx : Nat → Int32) (n : Nat) (R : RS) : RS :=
  if skp tx (n - R.1) R.1 < n then
    (if dig (tx (skp tx (n - R.1) R.1)) then ((scn tx (n - skp tx (n - R.1) R.1) (skp tx (n - R.1) R.1) (nI 0)).1, numR tx (skp tx (n - R.1) R.1) (scn tx (n - skp tx (n - R.1) R.1) (skp tx (n - R.1) R.1) (nI 0)), skp tx (n - R.1) R.1, (scn tx (n - skp tx (n - R.1) R.1) (skp tx (n - R.1) R.1) (nI 0)).2)
     else (skp tx (n - R.1) R.1 + 1, tokR (tx (skp tx (n - R.1) R.1)), skp tx (n - R.1) R.1, tx (skp tx (n - R.1) R.1)))
  else (skp tx (n - R.1) R.1, nI 0, skp tx (n - R.1) R.1, R.2.2.2)
theorem rdv_end {tx : Nat → Int32} {n w : Nat} {R : RS} (h : skp tx (n - R.1) R.1 = w) (hw : ¬ w < n) : rdv tx n R = (w, nI 0, w, R.2.2.2) := by
  unfold rdv; rw [h, if_neg hw]
theorem rdv_num {tx : Nat → Int32} {n w : Nat} {R : RS} (h : skp tx (n - R.1) R.1 = w) (hw : w < n) (hd : dig (tx w)) : rdv tx n R = ((scn tx (n - w) w (nI 0)).1, numR tx w (scn tx (n - w) w (nI 0)), w, (scn tx (n - w) w (nI 0)).2) := by
  unfold rdv; rw [h, if_pos hw, if_pos hd]
theorem rdv_tok {tx : Nat → Int32} {n w : Nat} {R : RS} (h : skp tx (n - R.1) R.1 = w) (hw : w < n) (hd : ¬ dig (tx w)) : rdv tx n R = (w + 1, tokR (tx w), w, tx w) := by
  unfold rdv; rw [h, if_pos hw, if_neg hd]
theorem rdv_le {tx : Nat → Int32} {n : Nat} {R : RS} (h : R.1 ≤ n) : (rdv tx n R).1 ≤ n ∧ R.1 ≤ (rdv tx n R).1 := by
  have h1 := skp_le tx (n - R.1) R.1
  obtain ⟨w, hw⟩ : ∃ w, skp tx (n - R.1) R.1 = w := ⟨_, rfl⟩
  rw [hw] at h1
  by_cases h2 : w < n
  · by_cases h3 : dig (tx w)
    · rw [rdv_num hw h2 h3]; have := scn_le tx (n - w) w (nI 0); dsimp only; omega
    · rw [rdv_tok hw h2 h3]; dsimp only; omega
  · rw [rdv_end hw h2]; dsimp only; omega

set_option maxHeartbeats 4000000 in
set_option maxRecDepth 100000 in
theorem kX12_in (l : Launch) (E : EX) (v lo hi : Int64)  : M l E yX12_in wsX12_in { frames := 0, cells := 0, slots := 0, locals := 0 } 0 0 [.long v, .long lo, .long hi] [] (is1 (some (.int (bI (inL v lo hi)))) []) := by
  refine M.ofG (cc := cX12_in) (maxL := 6) (ret := (some .boolean)) (lv := [(0, .long v), (2, .long lo), (4, .long hi)]) (own := RX12) (by decide) rfl rfl (Nat.le_of_ble_eq_true rfl) rfl ?_
  intro K C X _
  refine g_lload_n C dX12_in_0 rfl 0 rfl ?_
  refine g_lload_n C dX12_in_1 rfl 1 rfl ?_
  refine g_lcmp C dX12_in_2 ?_
  refine g_if_lt C 17 dX12_in_3 (by decide) (fun cq1 => ?_) (fun cq1 => ?_)
  · have hA9 : v < lo := (lgc_lt _ _).mp cq1
    refine g_iconst C (nI 0) dX12_in_17 (by decide) ?_
    exact g_zret C X rfl dX12_in_18 (⟨congrArg (fun z => some (Value.int z)) (bI_f (by first | exact fun z => z.1 hA9 | exact fun z => z.2 hB9)).symm, rfl⟩)
  · have hA9 : ¬ v < lo := fun z => cq1 ((lgc_lt _ _).mpr z)
    refine g_lload_n C dX12_in_6 rfl 0 rfl ?_
    refine g_lload C dX12_in_7 2 rfl ?_
    refine g_lcmp C dX12_in_9 ?_
    refine g_if_gt C 17 dX12_in_10 (by decide) (fun cq2 => ?_) (fun cq2 => ?_)
    · have hB9 : hi < v := (lgc_gt _ _).mp cq2
      refine g_iconst C (nI 0) dX12_in_17 (by decide) ?_
      exact g_zret C X rfl dX12_in_18 (⟨congrArg (fun z => some (Value.int z)) (bI_f (by first | exact fun z => z.1 hA9 | exact fun z => z.2 hB9)).symm, rfl⟩)
    · have hB9 : ¬ hi < v := fun z => cq2 ((lgc_gt _ _).mpr z)
      refine g_iconst C (nI 1) dX12_in_13 (by decide) ?_
      refine g_goto C 18 dX12_in_14 (by decide) ?_
      exact g_zret C X rfl dX12_in_18 (⟨congrArg (fun z => some (Value.int z)) (bI_t (⟨hA9, hB9⟩)).symm, rfl⟩)

theorem kX12_in_255 (l : Launch) (E : EX) (x : Int32)  : M l E yX12_in wsX12_in { frames := 0, cells := 0, slots := 0, locals := 0 } 0 0 [.long x.toInt64, .long 0, .long 255] [] (is1 (some (.int (bI (inR x 256)))) []) := by rw [← bI_congr (inL_nI x (N := 255) (by decide) (show (255 : Int64) = (nI 255).toInt64 by decide))]; exact kX12_in l E x.toInt64 0 255

theorem kX12_in_6 (l : Launch) (E : EX) (x : Int32)  : M l E yX12_in wsX12_in { frames := 0, cells := 0, slots := 0, locals := 0 } 0 0 [.long x.toInt64, .long 0, .long 6] [] (is1 (some (.int (bI (inR x 7)))) []) := by rw [← bI_congr (inL_nI x (N := 6) (by decide) (show (6 : Int64) = (nI 6).toInt64 by decide))]; exact kX12_in l E x.toInt64 0 6

theorem kX12_in_3 (l : Launch) (E : EX) (x : Int32)  : M l E yX12_in wsX12_in { frames := 0, cells := 0, slots := 0, locals := 0 } 0 0 [.long x.toInt64, .long 0, .long 3] [] (is1 (some (.int (bI (inR x 4)))) []) := by rw [← bI_congr (inL_nI x (N := 3) (by decide) (show (3 : Int64) = (nI 3).toInt64 by decide))]; exact kX12_in l E x.toInt64 0 3

theorem kX12_in_2 (l : Launch) (E : EX) (x : Int32)  : M l E yX12_in wsX12_in { frames := 0, cells := 0, slots := 0, locals := 0 } 0 0 [.long x.toInt64, .long 0, .long 2] [] (is1 (some (.int (bI (inR x 3)))) []) := by rw [← bI_congr (inL_nI x (N := 2) (by decide) (show (2 : Int64) = (nI 2).toInt64 by decide))]; exact kX12_in l E x.toInt64 0 2

theorem kX12_in_9999 (l : Launch) (E : EX) (x : Int32)  : M l E yX12_in wsX12_in { frames := 0, cells := 0, slots := 0, locals := 0 } 0 0 [.long x.toInt64, .long 0, .long 9999] [] (is1 (some (.int (bI (inR x 10000)))) []) := by rw [← bI_congr (inL_nI x (N := 9999) (by decide) (show (9999 : Int64) = (nI 9999).toInt64 by decide))]; exact kX12_in l E x.toInt64 0 9999

theorem kX12_in_20 (l : Launch) (E : EX) (x : Int32)  : M l E yX12_in wsX12_in { frames := 0, cells := 0, slots := 0, locals := 0 } 0 0 [.long x.toInt64, .long 0, .long 20] [] (is1 (some (.int (bI (inR x 21)))) []) := by rw [← bI_congr (inL_nI x (N := 20) (by decide) (show (20 : Int64) = (nI 20).toInt64 by decide))]; exact kX12_in l E x.toInt64 0 20

theorem kX12_in_5 (l : Launch) (E : EX) (x : Int32)  : M l E yX12_in wsX12_in { frames := 0, cells := 0, slots := 0, locals := 0 } 0 0 [.long x.toInt64, .long 0, .long 5] [] (is1 (some (.int (bI (inR x 6)))) []) := by rw [← bI_congr (inL_nI x (N := 5) (by decide) (show (5 : Int64) = (nI 5).toInt64 by decide))]; exact kX12_in l E x.toInt64 0 5

theorem kX12_in_zo (l : Launch) (E : EX) (x : Int32)  : M l E yX12_in wsX12_in { frames := 0, cells := 0, slots := 0, locals := 0 } 0 0 [.long x.toInt64, .long 0, .long 1] [] (is1 (some (.int (bI (zo x)))) []) := by rw [← bI_congr (inL_zo x)]; exact kX12_in l E x.toInt64 0 1

theorem kX12_in_fig (l : Launch) (E : EX) (x : Int32)  : M l E yX12_in wsX12_in { frames := 0, cells := 0, slots := 0, locals := 0 } 0 0 [.long x.toInt64, .long 48, .long 57] [] (is1 (some (.int (bI (dig x)))) []) := by rw [← bI_congr (inL_fig x)]; exact kX12_in l E x.toInt64 48 57

theorem inL_num (x : Int32) (lo hi : Nat) : inL x.toInt64 (nI lo).toInt64 (nI hi).toInt64 ↔ ¬ x < nI lo ∧ ¬ nI hi < x := by
  show (¬ x.toInt64 < (nI lo).toInt64 ∧ ¬ (nI hi).toInt64 < x.toInt64) ↔ _
  rw [wide_lt, wide_lt]

set_option maxHeartbeats 4000000 in
set_option maxRecDepth 100000 in
theorem kX12_isFigure (l : Launch) (E : EX) (x : Int32)  : M l E yX12_isFigure wsX12_isFigure { frames := 1, cells := 0, slots := 0, locals := 25 } 0 0 [.int x] [] (is1 (some (.int (bI (dig x)))) []) := by
  refine M.ofG (cc := cX12_isFigure) (maxL := 1) (ret := (some .boolean)) (lv := [(0, .int x)]) (own := RX12) (by decide) rfl rfl (Nat.le_of_ble_eq_true rfl) rfl ?_
  intro K C X _
  refine g_iload_n C dX12_isFigure_0 rfl 0 rfl ?_
  refine g_i2l C dX12_isFigure_1 ?_
  refine g_ldc2 C (v := 48) (List.mem_of_getElem? (i := 1) rfl) dX12_isFigure_2 ?_
  refine g_ldc2 C (v := 57) (List.mem_of_getElem? (i := 2) rfl) dX12_isFigure_5 ?_
  refine g_callS C (rest := []) (n := 3) (kX12_in_fig l E x ) gX12_isFigure_X12_in rfl ⟨rfl, rfl⟩ (by decide) (Nat.le_of_ble_eq_true rfl) rfl (by decide +kernel) rfl dX12_isFigure_8 [] [] rfl rfl ?_
  refine g_is1 (ws2 := []) (st2 := [.int (bI (dig x))]) [] rfl rfl rfl ?_
  exact g_zret C X (nar_bI _) dX12_isFigure_11 (⟨rfl, rfl⟩)

set_option maxHeartbeats 4000000 in
set_option maxRecDepth 100000 in
theorem kX12_isThing (l : Launch) (E : EX) (x : Int32)  : M l E yX12_isThing wsX12_isThing { frames := 1, cells := 0, slots := 0, locals := 25 } 0 0 [.int x] [] (is1 (some (.int (bI (inR x 7)))) []) := by
  refine M.ofG (cc := cX12_isThing) (maxL := 1) (ret := (some .boolean)) (lv := [(0, .int x)]) (own := RX12) (by decide) rfl rfl (Nat.le_of_ble_eq_true rfl) rfl ?_
  intro K C X _
  refine g_iload_n C dX12_isThing_0 rfl 0 rfl ?_
  refine g_i2l C dX12_isThing_1 ?_
  refine g_lconst C 0 dX12_isThing_2 rfl ?_
  refine g_ldc2 C (v := 6) (List.mem_of_getElem? (i := 1) rfl) dX12_isThing_3 ?_
  refine g_callS C (rest := []) (n := 3) (kX12_in_6 l E x ) gX12_isThing_X12_in rfl ⟨rfl, rfl⟩ (by decide) (Nat.le_of_ble_eq_true rfl) rfl (by decide +kernel) rfl dX12_isThing_6 [] [] rfl rfl ?_
  refine g_is1 (ws2 := []) (st2 := [.int (bI (inR x 7))]) [] rfl rfl rfl ?_
  exact g_zret C X (nar_bI _) dX12_isThing_9 (⟨rfl, rfl⟩)

set_option maxHeartbeats 4000000 in
set_option maxRecDepth 100000 in
theorem kX12_type (l : Launch) (E : EX) (m0 x0 x1 x2 x3 x4 x5 x6 x7 x8 x9 n und nt : Nat) (tr : Int64) (Q : RS) (tx : Nat → Int32) (x : Int32) (hn : n ≤ 200) : M l E yX12_type wsX12_type { frames := 1, cells := 0, slots := 0, locals := 25 } 0 0 [.ref m0, .int x] [(m0, oB 12 [.ref x0, .int (nI n), .int (nI Q.1), .int (nI Q.2.2.1), .int Q.2.1, .int Q.2.2.2, .ref x1, .ref x2, .ref x3, .ref x4, .int (nI und), .ref x5, .ref x6, .int (nI nt), .ref x7, .ref x8, .long tr, .ref x9]), (x0, iA E 200 tx)] (is1 (some (.int (tyS n x))) [(m0, oB 12 [.ref x0, .int (nI (if tyO n x then n + 1 else n)), .int (nI Q.1), .int (nI Q.2.2.1), .int Q.2.1, .int Q.2.2.2, .ref x1, .ref x2, .ref x3, .ref x4, .int (nI und), .ref x5, .ref x6, .int (nI nt), .ref x7, .ref x8, .long tr, .ref x9]), (x0, iA E 200 (if tyO n x then upd tx n x else tx))]) := by
  refine M.ofG (cc := cX12_type) (maxL := 2) (ret := (some .int)) (lv := [(0, .ref m0), (1, .int x)]) (own := RX12) (by decide) rfl rfl (Nat.le_of_ble_eq_true rfl) rfl ?_
  intro K C X _
  have i12 : ∀ w ∈ wsX120, w ∈ wsX12_type := by decide +kernel
  refine g_iload_n C dX12_type_0 rfl 1 rfl ?_
  refine g_i2l C dX12_type_1 ?_
  refine g_lconst C 0 dX12_type_2 rfl ?_
  refine g_ldc2 C (v := 255) (List.mem_of_getElem? (i := 1) rfl) dX12_type_3 ?_
  refine g_callS C (rest := []) (n := 3) (kX12_in_255 l E x ) gX12_type_X12_in rfl ⟨rfl, rfl⟩ (by decide) (Nat.le_of_ble_eq_true rfl) rfl (by decide +kernel) rfl dX12_type_6 [] [0, 1] rfl rfl ?_
  refine g_is1 (ws2 := [(m0, oB 12 [.ref x0, .int (nI n), .int (nI Q.1), .int (nI Q.2.2.1), .int Q.2.1, .int Q.2.2.2, .ref x1, .ref x2, .ref x3, .ref x4, .int (nI und), .ref x5, .ref x6, .int (nI nt), .ref x7, .ref x8, .long tr, .ref x9]), (x0, iA E 200 tx)]) (st2 := [.int (bI (inR x 256))]) [0, 1] rfl rfl rfl ?_
  refine g_if_neB C 14 dX12_type_9 (by decide) (fun cq1 => ?_) (fun cq1 => ?_)
  · have hx9 : x ≤ nI 255 := by obtain ⟨j, hj, rfl⟩ := inR_of (by decide) cq1; exact nI_le (by omega) (by decide)
    refine g_aload_n C dX12_type_14 rfl 0 rfl ?_
    refine g_get C i12 0 rfl rfl 1 (by decide) (List.mem_of_getElem? (i := 2) rfl) rfl rfl dX12_type_15 ?_
    refine g_sipush C (nI 200) dX12_type_18 (by decide) ?_
    refine g_icmp_neN C 27 dX12_type_21 (by decide) (by omega) (by omega) (fun cq2 => ?_) (fun cq2 => ?_)
    · refine g_aload_n C dX12_type_27 rfl 0 rfl ?_
      refine g_get C i12 0 rfl rfl 0 (by decide) (List.mem_of_getElem? (i := 3) rfl) rfl rfl dX12_type_28 ?_
      refine g_aload_n C dX12_type_31 rfl 0 rfl ?_
      refine g_get C i12 0 rfl rfl 1 (by decide) (List.mem_of_getElem? (i := 2) rfl) rfl rfl dX12_type_32 ?_
      refine g_iload_n C dX12_type_35 rfl 1 rfl ?_
      refine g_iast C (ws' := fun fq3 => [(m0, oB 12 [.ref x0, .int (nI n), .int (nI Q.1), .int (nI Q.2.2.1), .int Q.2.1, .int Q.2.2.2, .ref x1, .ref x2, .ref x3, .ref x4, .int (nI und), .ref x5, .ref x6, .int (nI nt), .ref x7, .ref x8, .long tr, .ref x9]), (x0, iA E 200 fq3)]) 1 rfl (by omega) (by decide) dX12_type_36 (fun _ _ => rfl) (fun fq3 efq3 => ?_)
      refine g_aload_n C dX12_type_37 rfl 0 rfl ?_
      refine g_dup C dX12_type_38 rfl ?_
      refine g_get C i12 0 rfl rfl 1 (by decide) (List.mem_of_getElem? (i := 2) rfl) rfl rfl dX12_type_39 ?_
      refine g_iconst C (nI 1) dX12_type_42 (by decide) ?_
      refine g_iaddN C dX12_type_43 ?_
      refine g_put C i12 tyX12 tyX12_ok nmX12 0 rfl rfl 1 (by decide) (List.mem_of_getElem? (i := 2) rfl) rfl rfl rfl rfl rfl (Nat.le_of_ble_eq_true rfl) dX12_type_44 (ws' := [(m0, oB 12 [.ref x0, .int (nI (n + 1)), .int (nI Q.1), .int (nI Q.2.2.1), .int Q.2.1, .int Q.2.2.2, .ref x1, .ref x2, .ref x3, .ref x4, .int (nI und), .ref x5, .ref x6, .int (nI nt), .ref x7, .ref x8, .long tr, .ref x9]), (x0, iA E 200 fq3)]) rfl ?_
      refine g_aload_n C dX12_type_47 rfl 0 rfl ?_
      refine g_get C i12 0 rfl rfl 1 (by decide) (List.mem_of_getElem? (i := 2) rfl) rfl rfl dX12_type_48 ?_
      exact g_iret C X dX12_type_51 (⟨by unfold tyS; rw [if_neg cq1.1, if_pos hx9, if_pos (by omega)], by rw [if_pos ⟨cq1.1, hx9, by omega⟩, if_pos ⟨cq1.1, hx9, by omega⟩, efq3]⟩)
    · refine g_bipush C ((-3)) dX12_type_24 (by decide) ?_
      exact g_iret C X dX12_type_26 (⟨by unfold tyS; rw [if_neg cq1.1, if_pos hx9, if_neg (by omega)], by rw [if_neg (fun w => absurd w.2.2 (by omega)), if_neg (fun w => absurd w.2.2 (by omega))]⟩)
  · have hx9 : x < 0 ∨ ¬ x ≤ nI 255 := by rcases Decidable.em (x < 0) with h | h; (exact Or.inl h); (exact Or.inr (fun z => cq1 ⟨h, fun w => absurd (Int32.lt_of_lt_of_le (show nI 255 < nI 256 by decide) (Int32.le_trans w z)) Int32.lt_irrefl⟩))
    refine g_iconst C ((-1)) dX12_type_12 (by decide) ?_
    exact g_iret C X dX12_type_13 (⟨by unfold tyS; rcases hx9 with h | h; (rw [if_pos h]); (by_cases h2 : x < 0; (rw [if_pos h2]); (rw [if_neg h2, if_neg h])), by rw [if_neg (fun w => hx9.elim w.1 (fun z => z w.2.1)), if_neg (fun w => hx9.elim w.1 (fun z => z w.2.1))]⟩)

set_option maxHeartbeats 4000000 in
set_option maxRecDepth 100000 in
theorem kX12_clear (l : Launch) (E : EX) (m0 x0 x1 x2 x3 x4 x5 x6 x7 x8 x9 n und nt : Nat) (tr : Int64) (Q : RS)  : M l E yX12_clear wsX12_clear { frames := 0, cells := 0, slots := 0, locals := 0 } 0 0 [.ref m0] [(m0, oB 12 [.ref x0, .int (nI n), .int (nI Q.1), .int (nI Q.2.2.1), .int Q.2.1, .int Q.2.2.2, .ref x1, .ref x2, .ref x3, .ref x4, .int (nI und), .ref x5, .ref x6, .int (nI nt), .ref x7, .ref x8, .long tr, .ref x9])] (is1 (some (.int (nI n))) [(m0, oB 12 [.ref x0, .int (nI 0), .int (nI Q.1), .int (nI Q.2.2.1), .int Q.2.1, .int Q.2.2.2, .ref x1, .ref x2, .ref x3, .ref x4, .int (nI und), .ref x5, .ref x6, .int (nI nt), .ref x7, .ref x8, .long tr, .ref x9])]) := by
  refine M.ofG (cc := cX12_clear) (maxL := 2) (ret := (some .int)) (lv := [(0, .ref m0)]) (own := RX12) (by decide) rfl rfl (Nat.le_of_ble_eq_true rfl) rfl ?_
  intro K C X _
  have i12 : ∀ w ∈ wsX120, w ∈ wsX12_clear := by decide +kernel
  refine g_aload_n C dX12_clear_0 rfl 0 rfl ?_
  refine g_get C i12 0 rfl rfl 1 (by decide) (List.mem_of_getElem? (i := 1) rfl) rfl rfl dX12_clear_1 ?_
  refine g_istore_n C (lv' := [(1, .int (nI n)), (0, .ref m0)]) dX12_clear_4 rfl (by decide) rfl ?_
  refine g_aload_n C dX12_clear_5 rfl 1 rfl ?_
  refine g_iconst C (nI 0) dX12_clear_6 (by decide) ?_
  refine g_put C i12 tyX12 tyX12_ok nmX12 0 rfl rfl 1 (by decide) (List.mem_of_getElem? (i := 1) rfl) rfl rfl rfl rfl rfl (Nat.le_of_ble_eq_true rfl) dX12_clear_7 (ws' := [(m0, oB 12 [.ref x0, .int (nI 0), .int (nI Q.1), .int (nI Q.2.2.1), .int Q.2.1, .int Q.2.2.2, .ref x1, .ref x2, .ref x3, .ref x4, .int (nI und), .ref x5, .ref x6, .int (nI nt), .ref x7, .ref x8, .long tr, .ref x9])]) rfl ?_
  refine g_iload_n C dX12_clear_10 rfl 0 rfl ?_
  exact g_iret C X dX12_clear_11 (⟨rfl, rfl⟩)

set_option maxHeartbeats 4000000 in
set_option maxRecDepth 100000 in
theorem kX12_reads (l : Launch) (E : EX) (m0 x0 x1 x2 x3 x4 x5 x6 x7 x8 x9 n und nt : Nat) (tr : Int64) (Q : RS) (tx : Nat → Int32) (hn : n ≤ 200) (hp : Q.1 ≤ n) : M l E yX12_reads wsX12_reads { frames := 2, cells := 0, slots := 0, locals := 45 } 0 0 [.ref m0] [(m0, oB 12 [.ref x0, .int (nI n), .int (nI Q.1), .int (nI Q.2.2.1), .int Q.2.1, .int Q.2.2.2, .ref x1, .ref x2, .ref x3, .ref x4, .int (nI und), .ref x5, .ref x6, .int (nI nt), .ref x7, .ref x8, .long tr, .ref x9]), (x0, iA E 200 tx)] (is1 none [(m0, oB 12 [.ref x0, .int (nI n), .int (nI ((rdv tx n Q).1)), .int (nI ((rdv tx n Q).2.2.1)), .int ((rdv tx n Q).2.1), .int ((rdv tx n Q).2.2.2), .ref x1, .ref x2, .ref x3, .ref x4, .int (nI und), .ref x5, .ref x6, .int (nI nt), .ref x7, .ref x8, .long tr, .ref x9]), (x0, iA E 200 tx)]) := by
  refine M.ofG (cc := cX12_reads) (maxL := 1) (ret := none) (lv := [(0, .ref m0)]) (own := RX12) (by decide) rfl rfl (Nat.le_of_ble_eq_true rfl) rfl ?_
  intro K C X _
  have i12 : ∀ w ∈ wsX120, w ∈ wsX12_reads := by decide +kernel
  have L0 : ∀ (zz : Nat) (w : Nat), (n - w) < zz → (skp tx (n - w) w = skp tx (n - Q.1) Q.1) → (w ≤ n) → G K 0 0 0 [(0, .ref m0)] [] [(m0, oB 12 [.ref x0, .int (nI n), .int (nI w), .int (nI Q.2.2.1), .int Q.2.1, .int Q.2.2.2, .ref x1, .ref x2, .ref x3, .ref x4, .int (nI und), .ref x5, .ref x6, .int (nI nt), .ref x7, .ref x8, .long tr, .ref x9]), (x0, iA E 200 tx)] := by
    intro zz
    induction zz with
    | zero => intro w hL0; exact absurd hL0 (Nat.not_lt_zero _)
    | succ zz ihL0 =>
      intro w hL0 hs hw
      refine g_aload_n C dX12_reads_0 rfl 0 rfl ?_
      refine g_get C i12 0 rfl rfl 2 (by decide) (List.mem_of_getElem? (i := 1) rfl) rfl rfl dX12_reads_1 ?_
      refine g_aload_n C dX12_reads_4 rfl 0 rfl ?_
      refine g_get C i12 0 rfl rfl 1 (by decide) (List.mem_of_getElem? (i := 2) rfl) rfl rfl dX12_reads_5 ?_
      refine g_icmp_geN C 38 dX12_reads_8 (by decide) (by omega) (by omega) (fun cq1 => ?_) (fun cq1 => ?_)
      · have hS : skp tx (n - Q.1) Q.1 = w := by rw [← hs, show n - w = 0 by omega, skp]
        refine g_aload_n C dX12_reads_38 rfl 0 rfl ?_
        refine g_aload_n C dX12_reads_39 rfl 0 rfl ?_
        refine g_get C i12 0 rfl rfl 2 (by decide) (List.mem_of_getElem? (i := 1) rfl) rfl rfl dX12_reads_40 ?_
        refine g_put C i12 tyX12 tyX12_ok nmX12 0 rfl rfl 3 (by decide) (List.mem_of_getElem? (i := 4) rfl) rfl rfl rfl rfl rfl (Nat.le_of_ble_eq_true rfl) dX12_reads_43 (ws' := [(m0, oB 12 [.ref x0, .int (nI n), .int (nI w), .int (nI w), .int Q.2.1, .int Q.2.2.2, .ref x1, .ref x2, .ref x3, .ref x4, .int (nI und), .ref x5, .ref x6, .int (nI nt), .ref x7, .ref x8, .long tr, .ref x9]), (x0, iA E 200 tx)]) rfl ?_
        refine g_aload_n C dX12_reads_46 rfl 0 rfl ?_
        refine g_iconst C (nI 0) dX12_reads_47 (by decide) ?_
        refine g_put C i12 tyX12 tyX12_ok nmX12 0 rfl rfl 4 (by decide) (List.mem_of_getElem? (i := 5) rfl) rfl rfl rfl rfl rfl (Nat.le_of_ble_eq_true rfl) dX12_reads_48 (ws' := [(m0, oB 12 [.ref x0, .int (nI n), .int (nI w), .int (nI w), .int (nI 0), .int Q.2.2.2, .ref x1, .ref x2, .ref x3, .ref x4, .int (nI und), .ref x5, .ref x6, .int (nI nt), .ref x7, .ref x8, .long tr, .ref x9]), (x0, iA E 200 tx)]) rfl ?_
        refine g_aload_n C dX12_reads_51 rfl 0 rfl ?_
        refine g_get C i12 0 rfl rfl 2 (by decide) (List.mem_of_getElem? (i := 1) rfl) rfl rfl dX12_reads_52 ?_
        refine g_aload_n C dX12_reads_55 rfl 0 rfl ?_
        refine g_get C i12 0 rfl rfl 1 (by decide) (List.mem_of_getElem? (i := 2) rfl) rfl rfl dX12_reads_56 ?_
        refine g_icmp_geN C 209 dX12_reads_59 (by decide) (by omega) (by omega) (fun cq2 => ?_) (fun cq2 => ?_)
        · refine g_aload_n C dX12_reads_209 rfl 0 rfl ?_
          refine g_get C i12 0 rfl rfl 2 (by decide) (List.mem_of_getElem? (i := 1) rfl) rfl rfl dX12_reads_210 ?_
          refine g_aload_n C dX12_reads_213 rfl 0 rfl ?_
          refine g_get C i12 0 rfl rfl 1 (by decide) (List.mem_of_getElem? (i := 2) rfl) rfl rfl dX12_reads_214 ?_
          refine g_icmp_geN C 292 dX12_reads_217 (by decide) (by omega) (by omega) (fun cq3 => ?_) (fun cq3 => ?_)
          · exact g_vret C X dX12_reads_292 (⟨rfl, by first | (rw [rdv_end hS (by omega)]; done) | (rw [rdv_num hS (by omega) hdg, hR, numR]; simp [cq1, cq2, cq3]; done) | (rw [rdv_num hS (by omega) hdg, hR, numR]; simp [cq1, cq2, cq3]; omega) | (rw [rdv_tok hS (by omega) hdg, tokR_1 (by first | exact Or.inl cq3 | exact Or.inr (Or.inl cq3) | exact Or.inr (Or.inr cq3))]; done) | (rw [rdv_tok hS (by omega) hdg, tokR_3 trivial cq1 cq2 cq3]; done) | (rw [rdv_tok hS (by omega) hdg, tokR_4 trivial cq1 cq2 cq3]; done) | (exfalso; omega)⟩)
          · refine g_aload_n C dX12_reads_220 rfl 0 rfl ?_
            refine g_aload_n C dX12_reads_221 rfl 0 rfl ?_
            refine g_get C i12 0 rfl rfl 0 (by decide) (List.mem_of_getElem? (i := 3) rfl) rfl rfl dX12_reads_222 ?_
            refine g_aload_n C dX12_reads_225 rfl 0 rfl ?_
            refine g_get C i12 0 rfl rfl 2 (by decide) (List.mem_of_getElem? (i := 1) rfl) rfl rfl dX12_reads_226 ?_
            refine g_iald C 1 rfl (by omega) (by decide) dX12_reads_229 ?_
            refine g_put C i12 tyX12 tyX12_ok nmX12 0 rfl rfl 5 (by decide) (List.mem_of_getElem? (i := 6) rfl) rfl rfl rfl rfl rfl (Nat.le_of_ble_eq_true rfl) dX12_reads_230 (ws' := [(m0, oB 12 [.ref x0, .int (nI n), .int (nI w), .int (nI w), .int (nI 0), .int (tx w), .ref x1, .ref x2, .ref x3, .ref x4, .int (nI und), .ref x5, .ref x6, .int (nI nt), .ref x7, .ref x8, .long tr, .ref x9]), (x0, iA E 200 tx)]) rfl ?_
            refine g_aload_n C dX12_reads_233 rfl 0 rfl ?_
            refine g_aload_n C dX12_reads_234 rfl 0 rfl ?_
            refine g_get C i12 0 rfl rfl 5 (by decide) (List.mem_of_getElem? (i := 6) rfl) rfl rfl dX12_reads_235 ?_
            refine g_bipush C (nI 113) dX12_reads_238 (by decide) ?_
            refine g_icmp_eq C 261 dX12_reads_240 (by decide) (fun cq4 => ?_) (fun cq4 => ?_)
            · refine g_iconst C (nI 1) dX12_reads_261 (by decide) ?_
              refine g_goto C 279 dX12_reads_262 (by decide) ?_
              refine g_put C i12 tyX12 tyX12_ok nmX12 0 rfl rfl 4 (by decide) (List.mem_of_getElem? (i := 5) rfl) rfl rfl rfl rfl rfl (Nat.le_of_ble_eq_true rfl) dX12_reads_279 (ws' := [(m0, oB 12 [.ref x0, .int (nI n), .int (nI w), .int (nI w), .int (nI 1), .int (tx w), .ref x1, .ref x2, .ref x3, .ref x4, .int (nI und), .ref x5, .ref x6, .int (nI nt), .ref x7, .ref x8, .long tr, .ref x9]), (x0, iA E 200 tx)]) rfl ?_
              refine g_aload_n C dX12_reads_282 rfl 0 rfl ?_
              refine g_dup C dX12_reads_283 rfl ?_
              refine g_get C i12 0 rfl rfl 2 (by decide) (List.mem_of_getElem? (i := 1) rfl) rfl rfl dX12_reads_284 ?_
              refine g_iconst C (nI 1) dX12_reads_287 (by decide) ?_
              refine g_iaddN C dX12_reads_288 ?_
              refine g_put C i12 tyX12 tyX12_ok nmX12 0 rfl rfl 2 (by decide) (List.mem_of_getElem? (i := 1) rfl) rfl rfl rfl rfl rfl (Nat.le_of_ble_eq_true rfl) dX12_reads_289 (ws' := [(m0, oB 12 [.ref x0, .int (nI n), .int (nI (w + 1)), .int (nI w), .int (nI 1), .int (tx w), .ref x1, .ref x2, .ref x3, .ref x4, .int (nI und), .ref x5, .ref x6, .int (nI nt), .ref x7, .ref x8, .long tr, .ref x9]), (x0, iA E 200 tx)]) rfl ?_
              exact g_vret C X dX12_reads_292 (⟨rfl, by first | (rw [rdv_end hS (by omega)]; done) | (rw [rdv_num hS (by omega) hdg, hR, numR]; simp [cq1, cq2, cq3, cq4]; done) | (rw [rdv_num hS (by omega) hdg, hR, numR]; simp [cq1, cq2, cq3, cq4]; omega) | (rw [rdv_tok hS (by omega) hdg, tokR_1 (by first | exact Or.inl cq4 | exact Or.inr (Or.inl cq4) | exact Or.inr (Or.inr cq4))]; done) | (rw [rdv_tok hS (by omega) hdg, tokR_3 cq1 cq2 cq3 cq4]; done) | (rw [rdv_tok hS (by omega) hdg, tokR_4 cq1 cq2 cq3 cq4]; done) | (exfalso; omega)⟩)
            · refine g_aload_n C dX12_reads_243 rfl 0 rfl ?_
              refine g_get C i12 0 rfl rfl 5 (by decide) (List.mem_of_getElem? (i := 6) rfl) rfl rfl dX12_reads_244 ?_
              refine g_bipush C (nI 112) dX12_reads_247 (by decide) ?_
              refine g_icmp_eq C 261 dX12_reads_249 (by decide) (fun cq5 => ?_) (fun cq5 => ?_)
              · refine g_iconst C (nI 1) dX12_reads_261 (by decide) ?_
                refine g_goto C 279 dX12_reads_262 (by decide) ?_
                refine g_put C i12 tyX12 tyX12_ok nmX12 0 rfl rfl 4 (by decide) (List.mem_of_getElem? (i := 5) rfl) rfl rfl rfl rfl rfl (Nat.le_of_ble_eq_true rfl) dX12_reads_279 (ws' := [(m0, oB 12 [.ref x0, .int (nI n), .int (nI w), .int (nI w), .int (nI 1), .int (tx w), .ref x1, .ref x2, .ref x3, .ref x4, .int (nI und), .ref x5, .ref x6, .int (nI nt), .ref x7, .ref x8, .long tr, .ref x9]), (x0, iA E 200 tx)]) rfl ?_
                refine g_aload_n C dX12_reads_282 rfl 0 rfl ?_
                refine g_dup C dX12_reads_283 rfl ?_
                refine g_get C i12 0 rfl rfl 2 (by decide) (List.mem_of_getElem? (i := 1) rfl) rfl rfl dX12_reads_284 ?_
                refine g_iconst C (nI 1) dX12_reads_287 (by decide) ?_
                refine g_iaddN C dX12_reads_288 ?_
                refine g_put C i12 tyX12 tyX12_ok nmX12 0 rfl rfl 2 (by decide) (List.mem_of_getElem? (i := 1) rfl) rfl rfl rfl rfl rfl (Nat.le_of_ble_eq_true rfl) dX12_reads_289 (ws' := [(m0, oB 12 [.ref x0, .int (nI n), .int (nI (w + 1)), .int (nI w), .int (nI 1), .int (tx w), .ref x1, .ref x2, .ref x3, .ref x4, .int (nI und), .ref x5, .ref x6, .int (nI nt), .ref x7, .ref x8, .long tr, .ref x9]), (x0, iA E 200 tx)]) rfl ?_
                exact g_vret C X dX12_reads_292 (⟨rfl, by first | (rw [rdv_end hS (by omega)]; done) | (rw [rdv_num hS (by omega) hdg, hR, numR]; simp [cq1, cq2, cq3, cq4, cq5]; done) | (rw [rdv_num hS (by omega) hdg, hR, numR]; simp [cq1, cq2, cq3, cq4, cq5]; omega) | (rw [rdv_tok hS (by omega) hdg, tokR_1 (by first | exact Or.inl cq5 | exact Or.inr (Or.inl cq5) | exact Or.inr (Or.inr cq5))]; done) | (rw [rdv_tok hS (by omega) hdg, tokR_3 cq2 cq3 cq4 cq5]; done) | (rw [rdv_tok hS (by omega) hdg, tokR_4 cq2 cq3 cq4 cq5]; done) | (exfalso; omega)⟩)
              · refine g_aload_n C dX12_reads_252 rfl 0 rfl ?_
                refine g_get C i12 0 rfl rfl 5 (by decide) (List.mem_of_getElem? (i := 6) rfl) rfl rfl dX12_reads_253 ?_
                refine g_bipush C (nI 120) dX12_reads_256 (by decide) ?_
                refine g_icmp_ne C 265 dX12_reads_258 (by decide) (fun cq6 => ?_) (fun cq6 => ?_)
                · refine g_aload_n C dX12_reads_265 rfl 0 rfl ?_
                  refine g_get C i12 0 rfl rfl 5 (by decide) (List.mem_of_getElem? (i := 6) rfl) rfl rfl dX12_reads_266 ?_
                  refine g_bipush C (nI 59) dX12_reads_269 (by decide) ?_
                  refine g_icmp_ne C 278 dX12_reads_271 (by decide) (fun cq7 => ?_) (fun cq7 => ?_)
                  · refine g_iconst C (nI 4) dX12_reads_278 (by decide) ?_
                    refine g_put C i12 tyX12 tyX12_ok nmX12 0 rfl rfl 4 (by decide) (List.mem_of_getElem? (i := 5) rfl) rfl rfl rfl rfl rfl (Nat.le_of_ble_eq_true rfl) dX12_reads_279 (ws' := [(m0, oB 12 [.ref x0, .int (nI n), .int (nI w), .int (nI w), .int (nI 4), .int (tx w), .ref x1, .ref x2, .ref x3, .ref x4, .int (nI und), .ref x5, .ref x6, .int (nI nt), .ref x7, .ref x8, .long tr, .ref x9]), (x0, iA E 200 tx)]) rfl ?_
                    refine g_aload_n C dX12_reads_282 rfl 0 rfl ?_
                    refine g_dup C dX12_reads_283 rfl ?_
                    refine g_get C i12 0 rfl rfl 2 (by decide) (List.mem_of_getElem? (i := 1) rfl) rfl rfl dX12_reads_284 ?_
                    refine g_iconst C (nI 1) dX12_reads_287 (by decide) ?_
                    refine g_iaddN C dX12_reads_288 ?_
                    refine g_put C i12 tyX12 tyX12_ok nmX12 0 rfl rfl 2 (by decide) (List.mem_of_getElem? (i := 1) rfl) rfl rfl rfl rfl rfl (Nat.le_of_ble_eq_true rfl) dX12_reads_289 (ws' := [(m0, oB 12 [.ref x0, .int (nI n), .int (nI (w + 1)), .int (nI w), .int (nI 4), .int (tx w), .ref x1, .ref x2, .ref x3, .ref x4, .int (nI und), .ref x5, .ref x6, .int (nI nt), .ref x7, .ref x8, .long tr, .ref x9]), (x0, iA E 200 tx)]) rfl ?_
                    exact g_vret C X dX12_reads_292 (⟨rfl, by first | (rw [rdv_end hS (by omega)]; done) | (rw [rdv_num hS (by omega) hdg, hR, numR]; simp [cq1, cq2, cq3, cq4, cq5, cq6, cq7]; done) | (rw [rdv_num hS (by omega) hdg, hR, numR]; simp [cq1, cq2, cq3, cq4, cq5, cq6, cq7]; omega) | (rw [rdv_tok hS (by omega) hdg, tokR_1 (by first | exact Or.inl cq7 | exact Or.inr (Or.inl cq7) | exact Or.inr (Or.inr cq7))]; done) | (rw [rdv_tok hS (by omega) hdg, tokR_3 cq4 cq5 cq6 cq7]; done) | (rw [rdv_tok hS (by omega) hdg, tokR_4 cq4 cq5 cq6 cq7]; done) | (exfalso; omega)⟩)
                  · refine g_iconst C (nI 3) dX12_reads_274 (by decide) ?_
                    refine g_goto C 279 dX12_reads_275 (by decide) ?_
                    refine g_put C i12 tyX12 tyX12_ok nmX12 0 rfl rfl 4 (by decide) (List.mem_of_getElem? (i := 5) rfl) rfl rfl rfl rfl rfl (Nat.le_of_ble_eq_true rfl) dX12_reads_279 (ws' := [(m0, oB 12 [.ref x0, .int (nI n), .int (nI w), .int (nI w), .int (nI 3), .int (tx w), .ref x1, .ref x2, .ref x3, .ref x4, .int (nI und), .ref x5, .ref x6, .int (nI nt), .ref x7, .ref x8, .long tr, .ref x9]), (x0, iA E 200 tx)]) rfl ?_
                    refine g_aload_n C dX12_reads_282 rfl 0 rfl ?_
                    refine g_dup C dX12_reads_283 rfl ?_
                    refine g_get C i12 0 rfl rfl 2 (by decide) (List.mem_of_getElem? (i := 1) rfl) rfl rfl dX12_reads_284 ?_
                    refine g_iconst C (nI 1) dX12_reads_287 (by decide) ?_
                    refine g_iaddN C dX12_reads_288 ?_
                    refine g_put C i12 tyX12 tyX12_ok nmX12 0 rfl rfl 2 (by decide) (List.mem_of_getElem? (i := 1) rfl) rfl rfl rfl rfl rfl (Nat.le_of_ble_eq_true rfl) dX12_reads_289 (ws' := [(m0, oB 12 [.ref x0, .int (nI n), .int (nI (w + 1)), .int (nI w), .int (nI 3), .int (tx w), .ref x1, .ref x2, .ref x3, .ref x4, .int (nI und), .ref x5, .ref x6, .int (nI nt), .ref x7, .ref x8, .long tr, .ref x9]), (x0, iA E 200 tx)]) rfl ?_
                    exact g_vret C X dX12_reads_292 (⟨rfl, by first | (rw [rdv_end hS (by omega)]; done) | (rw [rdv_num hS (by omega) hdg, hR, numR]; simp [cq1, cq2, cq3, cq4, cq5, cq6, cq7]; done) | (rw [rdv_num hS (by omega) hdg, hR, numR]; simp [cq1, cq2, cq3, cq4, cq5, cq6, cq7]; omega) | (rw [rdv_tok hS (by omega) hdg, tokR_1 (by first | exact Or.inl cq7 | exact Or.inr (Or.inl cq7) | exact Or.inr (Or.inr cq7))]; done) | (rw [rdv_tok hS (by omega) hdg, tokR_3 cq4 cq5 cq6 cq7]; done) | (rw [rdv_tok hS (by omega) hdg, tokR_4 cq4 cq5 cq6 cq7]; done) | (exfalso; omega)⟩)
                · refine g_iconst C (nI 1) dX12_reads_261 (by decide) ?_
                  refine g_goto C 279 dX12_reads_262 (by decide) ?_
                  refine g_put C i12 tyX12 tyX12_ok nmX12 0 rfl rfl 4 (by decide) (List.mem_of_getElem? (i := 5) rfl) rfl rfl rfl rfl rfl (Nat.le_of_ble_eq_true rfl) dX12_reads_279 (ws' := [(m0, oB 12 [.ref x0, .int (nI n), .int (nI w), .int (nI w), .int (nI 1), .int (tx w), .ref x1, .ref x2, .ref x3, .ref x4, .int (nI und), .ref x5, .ref x6, .int (nI nt), .ref x7, .ref x8, .long tr, .ref x9]), (x0, iA E 200 tx)]) rfl ?_
                  refine g_aload_n C dX12_reads_282 rfl 0 rfl ?_
                  refine g_dup C dX12_reads_283 rfl ?_
                  refine g_get C i12 0 rfl rfl 2 (by decide) (List.mem_of_getElem? (i := 1) rfl) rfl rfl dX12_reads_284 ?_
                  refine g_iconst C (nI 1) dX12_reads_287 (by decide) ?_
                  refine g_iaddN C dX12_reads_288 ?_
                  refine g_put C i12 tyX12 tyX12_ok nmX12 0 rfl rfl 2 (by decide) (List.mem_of_getElem? (i := 1) rfl) rfl rfl rfl rfl rfl (Nat.le_of_ble_eq_true rfl) dX12_reads_289 (ws' := [(m0, oB 12 [.ref x0, .int (nI n), .int (nI (w + 1)), .int (nI w), .int (nI 1), .int (tx w), .ref x1, .ref x2, .ref x3, .ref x4, .int (nI und), .ref x5, .ref x6, .int (nI nt), .ref x7, .ref x8, .long tr, .ref x9]), (x0, iA E 200 tx)]) rfl ?_
                  exact g_vret C X dX12_reads_292 (⟨rfl, by first | (rw [rdv_end hS (by omega)]; done) | (rw [rdv_num hS (by omega) hdg, hR, numR]; simp [cq1, cq2, cq3, cq4, cq5, cq6]; done) | (rw [rdv_num hS (by omega) hdg, hR, numR]; simp [cq1, cq2, cq3, cq4, cq5, cq6]; omega) | (rw [rdv_tok hS (by omega) hdg, tokR_1 (by first | exact Or.inl cq6 | exact Or.inr (Or.inl cq6) | exact Or.inr (Or.inr cq6))]; done) | (rw [rdv_tok hS (by omega) hdg, tokR_3 cq3 cq4 cq5 cq6]; done) | (rw [rdv_tok hS (by omega) hdg, tokR_4 cq3 cq4 cq5 cq6]; done) | (exfalso; omega)⟩)
        · refine g_aload_n C dX12_reads_62 rfl 0 rfl ?_
          refine g_get C i12 0 rfl rfl 0 (by decide) (List.mem_of_getElem? (i := 3) rfl) rfl rfl dX12_reads_63 ?_
          refine g_aload_n C dX12_reads_66 rfl 0 rfl ?_
          refine g_get C i12 0 rfl rfl 2 (by decide) (List.mem_of_getElem? (i := 1) rfl) rfl rfl dX12_reads_67 ?_
          refine g_iald C 1 rfl (by omega) (by decide) dX12_reads_70 ?_
          refine g_callS C (rest := []) (n := 1) (kX12_isFigure l E (tx w) ) gX12_reads_X12_isFigure rfl ⟨rfl, rfl⟩ (by decide) (Nat.le_of_ble_eq_true rfl) rfl (by decide +kernel) rfl dX12_reads_71 [] [0, 1] rfl rfl ?_
          refine g_is1 (ws2 := [(m0, oB 12 [.ref x0, .int (nI n), .int (nI w), .int (nI w), .int (nI 0), .int Q.2.2.2, .ref x1, .ref x2, .ref x3, .ref x4, .int (nI und), .ref x5, .ref x6, .int (nI nt), .ref x7, .ref x8, .long tr, .ref x9]), (x0, iA E 200 tx)]) (st2 := [.int (bI (dig (tx w)))]) [0, 1] rfl rfl rfl ?_
          refine g_if_eqB C 209 dX12_reads_74 (by decide) (fun cq8 => ?_) (fun cq8 => ?_)
          · have hdg : ¬ dig (tx w) := cq8
            refine g_aload_n C dX12_reads_209 rfl 0 rfl ?_
            refine g_get C i12 0 rfl rfl 2 (by decide) (List.mem_of_getElem? (i := 1) rfl) rfl rfl dX12_reads_210 ?_
            refine g_aload_n C dX12_reads_213 rfl 0 rfl ?_
            refine g_get C i12 0 rfl rfl 1 (by decide) (List.mem_of_getElem? (i := 2) rfl) rfl rfl dX12_reads_214 ?_
            refine g_icmp_geN C 292 dX12_reads_217 (by decide) (by omega) (by omega) (fun cq9 => ?_) (fun cq9 => ?_)
            · exact g_vret C X dX12_reads_292 (⟨rfl, by first | (rw [rdv_end hS (by omega)]; done) | (rw [rdv_num hS (by omega) hdg, hR, numR]; simp [cq1, cq2, cq8, cq9]; done) | (rw [rdv_num hS (by omega) hdg, hR, numR]; simp [cq1, cq2, cq8, cq9]; omega) | (rw [rdv_tok hS (by omega) hdg, tokR_1 (by first | exact Or.inl cq9 | exact Or.inr (Or.inl cq9) | exact Or.inr (Or.inr cq9))]; done) | (rw [rdv_tok hS (by omega) hdg, tokR_3 cq1 cq2 cq8 cq9]; done) | (rw [rdv_tok hS (by omega) hdg, tokR_4 cq1 cq2 cq8 cq9]; done) | (exfalso; omega)⟩)
            · refine g_aload_n C dX12_reads_220 rfl 0 rfl ?_
              refine g_aload_n C dX12_reads_221 rfl 0 rfl ?_
              refine g_get C i12 0 rfl rfl 0 (by decide) (List.mem_of_getElem? (i := 3) rfl) rfl rfl dX12_reads_222 ?_
              refine g_aload_n C dX12_reads_225 rfl 0 rfl ?_
              refine g_get C i12 0 rfl rfl 2 (by decide) (List.mem_of_getElem? (i := 1) rfl) rfl rfl dX12_reads_226 ?_
              refine g_iald C 1 rfl (by omega) (by decide) dX12_reads_229 ?_
              refine g_put C i12 tyX12 tyX12_ok nmX12 0 rfl rfl 5 (by decide) (List.mem_of_getElem? (i := 6) rfl) rfl rfl rfl rfl rfl (Nat.le_of_ble_eq_true rfl) dX12_reads_230 (ws' := [(m0, oB 12 [.ref x0, .int (nI n), .int (nI w), .int (nI w), .int (nI 0), .int (tx w), .ref x1, .ref x2, .ref x3, .ref x4, .int (nI und), .ref x5, .ref x6, .int (nI nt), .ref x7, .ref x8, .long tr, .ref x9]), (x0, iA E 200 tx)]) rfl ?_
              refine g_aload_n C dX12_reads_233 rfl 0 rfl ?_
              refine g_aload_n C dX12_reads_234 rfl 0 rfl ?_
              refine g_get C i12 0 rfl rfl 5 (by decide) (List.mem_of_getElem? (i := 6) rfl) rfl rfl dX12_reads_235 ?_
              refine g_bipush C (nI 113) dX12_reads_238 (by decide) ?_
              refine g_icmp_eq C 261 dX12_reads_240 (by decide) (fun cq10 => ?_) (fun cq10 => ?_)
              · refine g_iconst C (nI 1) dX12_reads_261 (by decide) ?_
                refine g_goto C 279 dX12_reads_262 (by decide) ?_
                refine g_put C i12 tyX12 tyX12_ok nmX12 0 rfl rfl 4 (by decide) (List.mem_of_getElem? (i := 5) rfl) rfl rfl rfl rfl rfl (Nat.le_of_ble_eq_true rfl) dX12_reads_279 (ws' := [(m0, oB 12 [.ref x0, .int (nI n), .int (nI w), .int (nI w), .int (nI 1), .int (tx w), .ref x1, .ref x2, .ref x3, .ref x4, .int (nI und), .ref x5, .ref x6, .int (nI nt), .ref x7, .ref x8, .long tr, .ref x9]), (x0, iA E 200 tx)]) rfl ?_
                refine g_aload_n C dX12_reads_282 rfl 0 rfl ?_
                refine g_dup C dX12_reads_283 rfl ?_
                refine g_get C i12 0 rfl rfl 2 (by decide) (List.mem_of_getElem? (i := 1) rfl) rfl rfl dX12_reads_284 ?_
                refine g_iconst C (nI 1) dX12_reads_287 (by decide) ?_
                refine g_iaddN C dX12_reads_288 ?_
                refine g_put C i12 tyX12 tyX12_ok nmX12 0 rfl rfl 2 (by decide) (List.mem_of_getElem? (i := 1) rfl) rfl rfl rfl rfl rfl (Nat.le_of_ble_eq_true rfl) dX12_reads_289 (ws' := [(m0, oB 12 [.ref x0, .int (nI n), .int (nI (w + 1)), .int (nI w), .int (nI 1), .int (tx w), .ref x1, .ref x2, .ref x3, .ref x4, .int (nI und), .ref x5, .ref x6, .int (nI nt), .ref x7, .ref x8, .long tr, .ref x9]), (x0, iA E 200 tx)]) rfl ?_
                exact g_vret C X dX12_reads_292 (⟨rfl, by first | (rw [rdv_end hS (by omega)]; done) | (rw [rdv_num hS (by omega) hdg, hR, numR]; simp [cq1, cq2, cq8, cq9, cq10]; done) | (rw [rdv_num hS (by omega) hdg, hR, numR]; simp [cq1, cq2, cq8, cq9, cq10]; omega) | (rw [rdv_tok hS (by omega) hdg, tokR_1 (by first | exact Or.inl cq10 | exact Or.inr (Or.inl cq10) | exact Or.inr (Or.inr cq10))]; done) | (rw [rdv_tok hS (by omega) hdg, tokR_3 cq2 cq8 cq9 cq10]; done) | (rw [rdv_tok hS (by omega) hdg, tokR_4 cq2 cq8 cq9 cq10]; done) | (exfalso; omega)⟩)
              · refine g_aload_n C dX12_reads_243 rfl 0 rfl ?_
                refine g_get C i12 0 rfl rfl 5 (by decide) (List.mem_of_getElem? (i := 6) rfl) rfl rfl dX12_reads_244 ?_
                refine g_bipush C (nI 112) dX12_reads_247 (by decide) ?_
                refine g_icmp_eq C 261 dX12_reads_249 (by decide) (fun cq11 => ?_) (fun cq11 => ?_)
                · refine g_iconst C (nI 1) dX12_reads_261 (by decide) ?_
                  refine g_goto C 279 dX12_reads_262 (by decide) ?_
                  refine g_put C i12 tyX12 tyX12_ok nmX12 0 rfl rfl 4 (by decide) (List.mem_of_getElem? (i := 5) rfl) rfl rfl rfl rfl rfl (Nat.le_of_ble_eq_true rfl) dX12_reads_279 (ws' := [(m0, oB 12 [.ref x0, .int (nI n), .int (nI w), .int (nI w), .int (nI 1), .int (tx w), .ref x1, .ref x2, .ref x3, .ref x4, .int (nI und), .ref x5, .ref x6, .int (nI nt), .ref x7, .ref x8, .long tr, .ref x9]), (x0, iA E 200 tx)]) rfl ?_
                  refine g_aload_n C dX12_reads_282 rfl 0 rfl ?_
                  refine g_dup C dX12_reads_283 rfl ?_
                  refine g_get C i12 0 rfl rfl 2 (by decide) (List.mem_of_getElem? (i := 1) rfl) rfl rfl dX12_reads_284 ?_
                  refine g_iconst C (nI 1) dX12_reads_287 (by decide) ?_
                  refine g_iaddN C dX12_reads_288 ?_
                  refine g_put C i12 tyX12 tyX12_ok nmX12 0 rfl rfl 2 (by decide) (List.mem_of_getElem? (i := 1) rfl) rfl rfl rfl rfl rfl (Nat.le_of_ble_eq_true rfl) dX12_reads_289 (ws' := [(m0, oB 12 [.ref x0, .int (nI n), .int (nI (w + 1)), .int (nI w), .int (nI 1), .int (tx w), .ref x1, .ref x2, .ref x3, .ref x4, .int (nI und), .ref x5, .ref x6, .int (nI nt), .ref x7, .ref x8, .long tr, .ref x9]), (x0, iA E 200 tx)]) rfl ?_
                  exact g_vret C X dX12_reads_292 (⟨rfl, by first | (rw [rdv_end hS (by omega)]; done) | (rw [rdv_num hS (by omega) hdg, hR, numR]; simp [cq1, cq2, cq8, cq9, cq10, cq11]; done) | (rw [rdv_num hS (by omega) hdg, hR, numR]; simp [cq1, cq2, cq8, cq9, cq10, cq11]; omega) | (rw [rdv_tok hS (by omega) hdg, tokR_1 (by first | exact Or.inl cq11 | exact Or.inr (Or.inl cq11) | exact Or.inr (Or.inr cq11))]; done) | (rw [rdv_tok hS (by omega) hdg, tokR_3 cq8 cq9 cq10 cq11]; done) | (rw [rdv_tok hS (by omega) hdg, tokR_4 cq8 cq9 cq10 cq11]; done) | (exfalso; omega)⟩)
                · refine g_aload_n C dX12_reads_252 rfl 0 rfl ?_
                  refine g_get C i12 0 rfl rfl 5 (by decide) (List.mem_of_getElem? (i := 6) rfl) rfl rfl dX12_reads_253 ?_
                  refine g_bipush C (nI 120) dX12_reads_256 (by decide) ?_
                  refine g_icmp_ne C 265 dX12_reads_258 (by decide) (fun cq12 => ?_) (fun cq12 => ?_)
                  · refine g_aload_n C dX12_reads_265 rfl 0 rfl ?_
                    refine g_get C i12 0 rfl rfl 5 (by decide) (List.mem_of_getElem? (i := 6) rfl) rfl rfl dX12_reads_266 ?_
                    refine g_bipush C (nI 59) dX12_reads_269 (by decide) ?_
                    refine g_icmp_ne C 278 dX12_reads_271 (by decide) (fun cq13 => ?_) (fun cq13 => ?_)
                    · refine g_iconst C (nI 4) dX12_reads_278 (by decide) ?_
                      refine g_put C i12 tyX12 tyX12_ok nmX12 0 rfl rfl 4 (by decide) (List.mem_of_getElem? (i := 5) rfl) rfl rfl rfl rfl rfl (Nat.le_of_ble_eq_true rfl) dX12_reads_279 (ws' := [(m0, oB 12 [.ref x0, .int (nI n), .int (nI w), .int (nI w), .int (nI 4), .int (tx w), .ref x1, .ref x2, .ref x3, .ref x4, .int (nI und), .ref x5, .ref x6, .int (nI nt), .ref x7, .ref x8, .long tr, .ref x9]), (x0, iA E 200 tx)]) rfl ?_
                      refine g_aload_n C dX12_reads_282 rfl 0 rfl ?_
                      refine g_dup C dX12_reads_283 rfl ?_
                      refine g_get C i12 0 rfl rfl 2 (by decide) (List.mem_of_getElem? (i := 1) rfl) rfl rfl dX12_reads_284 ?_
                      refine g_iconst C (nI 1) dX12_reads_287 (by decide) ?_
                      refine g_iaddN C dX12_reads_288 ?_
                      refine g_put C i12 tyX12 tyX12_ok nmX12 0 rfl rfl 2 (by decide) (List.mem_of_getElem? (i := 1) rfl) rfl rfl rfl rfl rfl (Nat.le_of_ble_eq_true rfl) dX12_reads_289 (ws' := [(m0, oB 12 [.ref x0, .int (nI n), .int (nI (w + 1)), .int (nI w), .int (nI 4), .int (tx w), .ref x1, .ref x2, .ref x3, .ref x4, .int (nI und), .ref x5, .ref x6, .int (nI nt), .ref x7, .ref x8, .long tr, .ref x9]), (x0, iA E 200 tx)]) rfl ?_
                      exact g_vret C X dX12_reads_292 (⟨rfl, by first | (rw [rdv_end hS (by omega)]; done) | (rw [rdv_num hS (by omega) hdg, hR, numR]; simp [cq1, cq2, cq8, cq9, cq10, cq11, cq12, cq13]; done) | (rw [rdv_num hS (by omega) hdg, hR, numR]; simp [cq1, cq2, cq8, cq9, cq10, cq11, cq12, cq13]; omega) | (rw [rdv_tok hS (by omega) hdg, tokR_1 (by first | exact Or.inl cq13 | exact Or.inr (Or.inl cq13) | exact Or.inr (Or.inr cq13))]; done) | (rw [rdv_tok hS (by omega) hdg, tokR_3 cq10 cq11 cq12 cq13]; done) | (rw [rdv_tok hS (by omega) hdg, tokR_4 cq10 cq11 cq12 cq13]; done) | (exfalso; omega)⟩)
                    · refine g_iconst C (nI 3) dX12_reads_274 (by decide) ?_
                      refine g_goto C 279 dX12_reads_275 (by decide) ?_
                      refine g_put C i12 tyX12 tyX12_ok nmX12 0 rfl rfl 4 (by decide) (List.mem_of_getElem? (i := 5) rfl) rfl rfl rfl rfl rfl (Nat.le_of_ble_eq_true rfl) dX12_reads_279 (ws' := [(m0, oB 12 [.ref x0, .int (nI n), .int (nI w), .int (nI w), .int (nI 3), .int (tx w), .ref x1, .ref x2, .ref x3, .ref x4, .int (nI und), .ref x5, .ref x6, .int (nI nt), .ref x7, .ref x8, .long tr, .ref x9]), (x0, iA E 200 tx)]) rfl ?_
                      refine g_aload_n C dX12_reads_282 rfl 0 rfl ?_
                      refine g_dup C dX12_reads_283 rfl ?_
                      refine g_get C i12 0 rfl rfl 2 (by decide) (List.mem_of_getElem? (i := 1) rfl) rfl rfl dX12_reads_284 ?_
                      refine g_iconst C (nI 1) dX12_reads_287 (by decide) ?_
                      refine g_iaddN C dX12_reads_288 ?_
                      refine g_put C i12 tyX12 tyX12_ok nmX12 0 rfl rfl 2 (by decide) (List.mem_of_getElem? (i := 1) rfl) rfl rfl rfl rfl rfl (Nat.le_of_ble_eq_true rfl) dX12_reads_289 (ws' := [(m0, oB 12 [.ref x0, .int (nI n), .int (nI (w + 1)), .int (nI w), .int (nI 3), .int (tx w), .ref x1, .ref x2, .ref x3, .ref x4, .int (nI und), .ref x5, .ref x6, .int (nI nt), .ref x7, .ref x8, .long tr, .ref x9]), (x0, iA E 200 tx)]) rfl ?_
                      exact g_vret C X dX12_reads_292 (⟨rfl, by first | (rw [rdv_end hS (by omega)]; done) | (rw [rdv_num hS (by omega) hdg, hR, numR]; simp [cq1, cq2, cq8, cq9, cq10, cq11, cq12, cq13]; done) | (rw [rdv_num hS (by omega) hdg, hR, numR]; simp [cq1, cq2, cq8, cq9, cq10, cq11, cq12, cq13]; omega) | (rw [rdv_tok hS (by omega) hdg, tokR_1 (by first | exact Or.inl cq13 | exact Or.inr (Or.inl cq13) | exact Or.inr (Or.inr cq13))]; done) | (rw [rdv_tok hS (by omega) hdg, tokR_3 cq10 cq11 cq12 cq13]; done) | (rw [rdv_tok hS (by omega) hdg, tokR_4 cq10 cq11 cq12 cq13]; done) | (exfalso; omega)⟩)
                  · refine g_iconst C (nI 1) dX12_reads_261 (by decide) ?_
                    refine g_goto C 279 dX12_reads_262 (by decide) ?_
                    refine g_put C i12 tyX12 tyX12_ok nmX12 0 rfl rfl 4 (by decide) (List.mem_of_getElem? (i := 5) rfl) rfl rfl rfl rfl rfl (Nat.le_of_ble_eq_true rfl) dX12_reads_279 (ws' := [(m0, oB 12 [.ref x0, .int (nI n), .int (nI w), .int (nI w), .int (nI 1), .int (tx w), .ref x1, .ref x2, .ref x3, .ref x4, .int (nI und), .ref x5, .ref x6, .int (nI nt), .ref x7, .ref x8, .long tr, .ref x9]), (x0, iA E 200 tx)]) rfl ?_
                    refine g_aload_n C dX12_reads_282 rfl 0 rfl ?_
                    refine g_dup C dX12_reads_283 rfl ?_
                    refine g_get C i12 0 rfl rfl 2 (by decide) (List.mem_of_getElem? (i := 1) rfl) rfl rfl dX12_reads_284 ?_
                    refine g_iconst C (nI 1) dX12_reads_287 (by decide) ?_
                    refine g_iaddN C dX12_reads_288 ?_
                    refine g_put C i12 tyX12 tyX12_ok nmX12 0 rfl rfl 2 (by decide) (List.mem_of_getElem? (i := 1) rfl) rfl rfl rfl rfl rfl (Nat.le_of_ble_eq_true rfl) dX12_reads_289 (ws' := [(m0, oB 12 [.ref x0, .int (nI n), .int (nI (w + 1)), .int (nI w), .int (nI 1), .int (tx w), .ref x1, .ref x2, .ref x3, .ref x4, .int (nI und), .ref x5, .ref x6, .int (nI nt), .ref x7, .ref x8, .long tr, .ref x9]), (x0, iA E 200 tx)]) rfl ?_
                    exact g_vret C X dX12_reads_292 (⟨rfl, by first | (rw [rdv_end hS (by omega)]; done) | (rw [rdv_num hS (by omega) hdg, hR, numR]; simp [cq1, cq2, cq8, cq9, cq10, cq11, cq12]; done) | (rw [rdv_num hS (by omega) hdg, hR, numR]; simp [cq1, cq2, cq8, cq9, cq10, cq11, cq12]; omega) | (rw [rdv_tok hS (by omega) hdg, tokR_1 (by first | exact Or.inl cq12 | exact Or.inr (Or.inl cq12) | exact Or.inr (Or.inr cq12))]; done) | (rw [rdv_tok hS (by omega) hdg, tokR_3 cq9 cq10 cq11 cq12]; done) | (rw [rdv_tok hS (by omega) hdg, tokR_4 cq9 cq10 cq11 cq12]; done) | (exfalso; omega)⟩)
          · have hdg : dig (tx w) := cq8
            refine g_aload_n C dX12_reads_77 rfl 0 rfl ?_
            refine g_iconst C (nI 0) dX12_reads_78 (by decide) ?_
            refine g_put C i12 tyX12 tyX12_ok nmX12 0 rfl rfl 5 (by decide) (List.mem_of_getElem? (i := 6) rfl) rfl rfl rfl rfl rfl (Nat.le_of_ble_eq_true rfl) dX12_reads_79 (ws' := [(m0, oB 12 [.ref x0, .int (nI n), .int (nI w), .int (nI w), .int (nI 0), .int (nI 0), .ref x1, .ref x2, .ref x3, .ref x4, .int (nI und), .ref x5, .ref x6, .int (nI nt), .ref x7, .ref x8, .long tr, .ref x9]), (x0, iA E 200 tx)]) rfl ?_
            have L82 : ∀ (zz : Nat) (p : Nat) (x : Int32), (n - p) < zz → (scn tx (n - p) p x = scn tx (n - w) w (nI 0)) → (w ≤ p) → (p ≤ n) → G K 0 0 82 [(0, .ref m0)] [] [(m0, oB 12 [.ref x0, .int (nI n), .int (nI p), .int (nI w), .int (nI 0), .int x, .ref x1, .ref x2, .ref x3, .ref x4, .int (nI und), .ref x5, .ref x6, .int (nI nt), .ref x7, .ref x8, .long tr, .ref x9]), (x0, iA E 200 tx)] := by
              intro zz
              induction zz with
              | zero => intro p x hL82; exact absurd hL82 (Nat.not_lt_zero _)
              | succ zz ihL82 =>
                intro p x hL82 hc hw3 hw2
                refine g_aload_n C dX12_reads_82 rfl 0 rfl ?_
                refine g_get C i12 0 rfl rfl 2 (by decide) (List.mem_of_getElem? (i := 1) rfl) rfl rfl dX12_reads_83 ?_
                refine g_aload_n C dX12_reads_86 rfl 0 rfl ?_
                refine g_get C i12 0 rfl rfl 1 (by decide) (List.mem_of_getElem? (i := 2) rfl) rfl rfl dX12_reads_87 ?_
                refine g_icmp_geN C 161 dX12_reads_90 (by decide) (by omega) (by omega) (fun cq14 => ?_) (fun cq14 => ?_)
                · have hR : scn tx (n - w) w (nI 0) = (p, x) := by rw [← hc, show n - p = 0 by omega, scn]
                  refine g_aload_n C dX12_reads_161 rfl 0 rfl ?_
                  refine g_aload_n C dX12_reads_162 rfl 0 rfl ?_
                  refine g_get C i12 0 rfl rfl 5 (by decide) (List.mem_of_getElem? (i := 6) rfl) rfl rfl dX12_reads_163 ?_
                  refine g_bipush C (nI 127) dX12_reads_166 (by decide) ?_
                  refine g_icmp_gt C 198 dX12_reads_168 (by decide) (fun cq15 => ?_) (fun cq15 => ?_)
                  · refine g_iconst C (nI 4) dX12_reads_198 (by decide) ?_
                    refine g_goto C 203 dX12_reads_199 (by decide) ?_
                    refine g_put C i12 tyX12 tyX12_ok nmX12 0 rfl rfl 4 (by decide) (List.mem_of_getElem? (i := 5) rfl) rfl rfl rfl rfl rfl (Nat.le_of_ble_eq_true rfl) dX12_reads_203 (ws' := [(m0, oB 12 [.ref x0, .int (nI n), .int (nI p), .int (nI w), .int (nI 4), .int x, .ref x1, .ref x2, .ref x3, .ref x4, .int (nI und), .ref x5, .ref x6, .int (nI nt), .ref x7, .ref x8, .long tr, .ref x9]), (x0, iA E 200 tx)]) rfl ?_
                    refine g_goto C 292 dX12_reads_206 (by decide) ?_
                    exact g_vret C X dX12_reads_292 (⟨rfl, by first | (rw [rdv_end hS (by omega)]; done) | (rw [rdv_num hS (by omega) hdg, hR, numR]; simp [cq1, cq2, cq8, cq14, cq15]; done) | (rw [rdv_num hS (by omega) hdg, hR, numR]; simp [cq1, cq2, cq8, cq14, cq15]; omega) | (rw [rdv_tok hS (by omega) hdg, tokR_1 (by first | exact Or.inl cq15 | exact Or.inr (Or.inl cq15) | exact Or.inr (Or.inr cq15))]; done) | (rw [rdv_tok hS (by omega) hdg, tokR_3 cq2 cq8 cq14 cq15]; done) | (rw [rdv_tok hS (by omega) hdg, tokR_4 cq2 cq8 cq14 cq15]; done) | (exfalso; omega)⟩)
                  · refine g_aload_n C dX12_reads_171 rfl 0 rfl ?_
                    refine g_get C i12 0 rfl rfl 2 (by decide) (List.mem_of_getElem? (i := 1) rfl) rfl rfl dX12_reads_172 ?_
                    refine g_aload_n C dX12_reads_175 rfl 0 rfl ?_
                    refine g_get C i12 0 rfl rfl 3 (by decide) (List.mem_of_getElem? (i := 4) rfl) rfl rfl dX12_reads_176 ?_
                    refine g_isubN C dX12_reads_179 (by omega) ?_
                    refine g_iconst C (nI 1) dX12_reads_180 (by decide) ?_
                    refine g_icmp_leN C 202 dX12_reads_181 (by decide) (by omega) (by omega) (fun cq16 => ?_) (fun cq16 => ?_)
                    · refine g_iconst C (nI 2) dX12_reads_202 (by decide) ?_
                      refine g_put C i12 tyX12 tyX12_ok nmX12 0 rfl rfl 4 (by decide) (List.mem_of_getElem? (i := 5) rfl) rfl rfl rfl rfl rfl (Nat.le_of_ble_eq_true rfl) dX12_reads_203 (ws' := [(m0, oB 12 [.ref x0, .int (nI n), .int (nI p), .int (nI w), .int (nI 2), .int x, .ref x1, .ref x2, .ref x3, .ref x4, .int (nI und), .ref x5, .ref x6, .int (nI nt), .ref x7, .ref x8, .long tr, .ref x9]), (x0, iA E 200 tx)]) rfl ?_
                      refine g_goto C 292 dX12_reads_206 (by decide) ?_
                      exact g_vret C X dX12_reads_292 (⟨rfl, by first | (rw [rdv_end hS (by omega)]; done) | (rw [rdv_num hS (by omega) hdg, hR, numR]; simp [cq1, cq2, cq8, cq14, cq15, cq16]; done) | (rw [rdv_num hS (by omega) hdg, hR, numR]; simp [cq1, cq2, cq8, cq14, cq15, cq16]; omega) | (rw [rdv_tok hS (by omega) hdg, tokR_1 (by first | exact Or.inl cq16 | exact Or.inr (Or.inl cq16) | exact Or.inr (Or.inr cq16))]; done) | (rw [rdv_tok hS (by omega) hdg, tokR_3 cq8 cq14 cq15 cq16]; done) | (rw [rdv_tok hS (by omega) hdg, tokR_4 cq8 cq14 cq15 cq16]; done) | (exfalso; omega)⟩)
                    · refine g_aload_n C dX12_reads_184 rfl 0 rfl ?_
                      refine g_get C i12 0 rfl rfl 0 (by decide) (List.mem_of_getElem? (i := 3) rfl) rfl rfl dX12_reads_185 ?_
                      refine g_aload_n C dX12_reads_188 rfl 0 rfl ?_
                      refine g_get C i12 0 rfl rfl 3 (by decide) (List.mem_of_getElem? (i := 4) rfl) rfl rfl dX12_reads_189 ?_
                      refine g_iald C 1 rfl (by omega) (by decide) dX12_reads_192 ?_
                      refine g_bipush C (nI 48) dX12_reads_193 (by decide) ?_
                      refine g_icmp_ne C 202 dX12_reads_195 (by decide) (fun cq17 => ?_) (fun cq17 => ?_)
                      · refine g_iconst C (nI 2) dX12_reads_202 (by decide) ?_
                        refine g_put C i12 tyX12 tyX12_ok nmX12 0 rfl rfl 4 (by decide) (List.mem_of_getElem? (i := 5) rfl) rfl rfl rfl rfl rfl (Nat.le_of_ble_eq_true rfl) dX12_reads_203 (ws' := [(m0, oB 12 [.ref x0, .int (nI n), .int (nI p), .int (nI w), .int (nI 2), .int x, .ref x1, .ref x2, .ref x3, .ref x4, .int (nI und), .ref x5, .ref x6, .int (nI nt), .ref x7, .ref x8, .long tr, .ref x9]), (x0, iA E 200 tx)]) rfl ?_
                        refine g_goto C 292 dX12_reads_206 (by decide) ?_
                        exact g_vret C X dX12_reads_292 (⟨rfl, by first | (rw [rdv_end hS (by omega)]; done) | (rw [rdv_num hS (by omega) hdg, hR, numR]; simp [cq1, cq2, cq8, cq14, cq15, cq16, cq17]; done) | (rw [rdv_num hS (by omega) hdg, hR, numR]; simp [cq1, cq2, cq8, cq14, cq15, cq16, cq17]; omega) | (rw [rdv_tok hS (by omega) hdg, tokR_1 (by first | exact Or.inl cq17 | exact Or.inr (Or.inl cq17) | exact Or.inr (Or.inr cq17))]; done) | (rw [rdv_tok hS (by omega) hdg, tokR_3 cq14 cq15 cq16 cq17]; done) | (rw [rdv_tok hS (by omega) hdg, tokR_4 cq14 cq15 cq16 cq17]; done) | (exfalso; omega)⟩)
                      · refine g_iconst C (nI 4) dX12_reads_198 (by decide) ?_
                        refine g_goto C 203 dX12_reads_199 (by decide) ?_
                        refine g_put C i12 tyX12 tyX12_ok nmX12 0 rfl rfl 4 (by decide) (List.mem_of_getElem? (i := 5) rfl) rfl rfl rfl rfl rfl (Nat.le_of_ble_eq_true rfl) dX12_reads_203 (ws' := [(m0, oB 12 [.ref x0, .int (nI n), .int (nI p), .int (nI w), .int (nI 4), .int x, .ref x1, .ref x2, .ref x3, .ref x4, .int (nI und), .ref x5, .ref x6, .int (nI nt), .ref x7, .ref x8, .long tr, .ref x9]), (x0, iA E 200 tx)]) rfl ?_
                        refine g_goto C 292 dX12_reads_206 (by decide) ?_
                        exact g_vret C X dX12_reads_292 (⟨rfl, by first | (rw [rdv_end hS (by omega)]; done) | (rw [rdv_num hS (by omega) hdg, hR, numR]; simp [cq1, cq2, cq8, cq14, cq15, cq16, cq17]; done) | (rw [rdv_num hS (by omega) hdg, hR, numR]; simp [cq1, cq2, cq8, cq14, cq15, cq16, cq17]; omega) | (rw [rdv_tok hS (by omega) hdg, tokR_1 (by first | exact Or.inl cq17 | exact Or.inr (Or.inl cq17) | exact Or.inr (Or.inr cq17))]; done) | (rw [rdv_tok hS (by omega) hdg, tokR_3 cq14 cq15 cq16 cq17]; done) | (rw [rdv_tok hS (by omega) hdg, tokR_4 cq14 cq15 cq16 cq17]; done) | (exfalso; omega)⟩)
                · refine g_aload_n C dX12_reads_93 rfl 0 rfl ?_
                  refine g_get C i12 0 rfl rfl 0 (by decide) (List.mem_of_getElem? (i := 3) rfl) rfl rfl dX12_reads_94 ?_
                  refine g_aload_n C dX12_reads_97 rfl 0 rfl ?_
                  refine g_get C i12 0 rfl rfl 2 (by decide) (List.mem_of_getElem? (i := 1) rfl) rfl rfl dX12_reads_98 ?_
                  refine g_iald C 1 rfl (by omega) (by decide) dX12_reads_101 ?_
                  refine g_callS C (rest := []) (n := 1) (kX12_isFigure l E (tx p) ) gX12_reads_X12_isFigure rfl ⟨rfl, rfl⟩ (by decide) (Nat.le_of_ble_eq_true rfl) rfl (by decide +kernel) rfl dX12_reads_102 [] [0, 1] rfl rfl ?_
                  refine g_is1 (ws2 := [(m0, oB 12 [.ref x0, .int (nI n), .int (nI p), .int (nI w), .int (nI 0), .int x, .ref x1, .ref x2, .ref x3, .ref x4, .int (nI und), .ref x5, .ref x6, .int (nI nt), .ref x7, .ref x8, .long tr, .ref x9]), (x0, iA E 200 tx)]) (st2 := [.int (bI (dig (tx p)))]) [0, 1] rfl rfl rfl ?_
                  refine g_if_eqB C 161 dX12_reads_105 (by decide) (fun cq18 => ?_) (fun cq18 => ?_)
                  · have hR : scn tx (n - w) w (nI 0) = (p, x) := by rw [← hc, show n - p = (n - (p + 1)) + 1 by omega, scn, if_neg cq18]
                    refine g_aload_n C dX12_reads_161 rfl 0 rfl ?_
                    refine g_aload_n C dX12_reads_162 rfl 0 rfl ?_
                    refine g_get C i12 0 rfl rfl 5 (by decide) (List.mem_of_getElem? (i := 6) rfl) rfl rfl dX12_reads_163 ?_
                    refine g_bipush C (nI 127) dX12_reads_166 (by decide) ?_
                    refine g_icmp_gt C 198 dX12_reads_168 (by decide) (fun cq19 => ?_) (fun cq19 => ?_)
                    · refine g_iconst C (nI 4) dX12_reads_198 (by decide) ?_
                      refine g_goto C 203 dX12_reads_199 (by decide) ?_
                      refine g_put C i12 tyX12 tyX12_ok nmX12 0 rfl rfl 4 (by decide) (List.mem_of_getElem? (i := 5) rfl) rfl rfl rfl rfl rfl (Nat.le_of_ble_eq_true rfl) dX12_reads_203 (ws' := [(m0, oB 12 [.ref x0, .int (nI n), .int (nI p), .int (nI w), .int (nI 4), .int x, .ref x1, .ref x2, .ref x3, .ref x4, .int (nI und), .ref x5, .ref x6, .int (nI nt), .ref x7, .ref x8, .long tr, .ref x9]), (x0, iA E 200 tx)]) rfl ?_
                      refine g_goto C 292 dX12_reads_206 (by decide) ?_
                      exact g_vret C X dX12_reads_292 (⟨rfl, by first | (rw [rdv_end hS (by omega)]; done) | (rw [rdv_num hS (by omega) hdg, hR, numR]; simp [cq1, cq2, cq8, cq14, cq18, cq19]; done) | (rw [rdv_num hS (by omega) hdg, hR, numR]; simp [cq1, cq2, cq8, cq14, cq18, cq19]; omega) | (rw [rdv_tok hS (by omega) hdg, tokR_1 (by first | exact Or.inl cq19 | exact Or.inr (Or.inl cq19) | exact Or.inr (Or.inr cq19))]; done) | (rw [rdv_tok hS (by omega) hdg, tokR_3 cq8 cq14 cq18 cq19]; done) | (rw [rdv_tok hS (by omega) hdg, tokR_4 cq8 cq14 cq18 cq19]; done) | (exfalso; omega)⟩)
                    · refine g_aload_n C dX12_reads_171 rfl 0 rfl ?_
                      refine g_get C i12 0 rfl rfl 2 (by decide) (List.mem_of_getElem? (i := 1) rfl) rfl rfl dX12_reads_172 ?_
                      refine g_aload_n C dX12_reads_175 rfl 0 rfl ?_
                      refine g_get C i12 0 rfl rfl 3 (by decide) (List.mem_of_getElem? (i := 4) rfl) rfl rfl dX12_reads_176 ?_
                      refine g_isubN C dX12_reads_179 (by omega) ?_
                      refine g_iconst C (nI 1) dX12_reads_180 (by decide) ?_
                      refine g_icmp_leN C 202 dX12_reads_181 (by decide) (by omega) (by omega) (fun cq20 => ?_) (fun cq20 => ?_)
                      · refine g_iconst C (nI 2) dX12_reads_202 (by decide) ?_
                        refine g_put C i12 tyX12 tyX12_ok nmX12 0 rfl rfl 4 (by decide) (List.mem_of_getElem? (i := 5) rfl) rfl rfl rfl rfl rfl (Nat.le_of_ble_eq_true rfl) dX12_reads_203 (ws' := [(m0, oB 12 [.ref x0, .int (nI n), .int (nI p), .int (nI w), .int (nI 2), .int x, .ref x1, .ref x2, .ref x3, .ref x4, .int (nI und), .ref x5, .ref x6, .int (nI nt), .ref x7, .ref x8, .long tr, .ref x9]), (x0, iA E 200 tx)]) rfl ?_
                        refine g_goto C 292 dX12_reads_206 (by decide) ?_
                        exact g_vret C X dX12_reads_292 (⟨rfl, by first | (rw [rdv_end hS (by omega)]; done) | (rw [rdv_num hS (by omega) hdg, hR, numR]; simp [cq1, cq2, cq8, cq14, cq18, cq19, cq20]; done) | (rw [rdv_num hS (by omega) hdg, hR, numR]; simp [cq1, cq2, cq8, cq14, cq18, cq19, cq20]; omega) | (rw [rdv_tok hS (by omega) hdg, tokR_1 (by first | exact Or.inl cq20 | exact Or.inr (Or.inl cq20) | exact Or.inr (Or.inr cq20))]; done) | (rw [rdv_tok hS (by omega) hdg, tokR_3 cq14 cq18 cq19 cq20]; done) | (rw [rdv_tok hS (by omega) hdg, tokR_4 cq14 cq18 cq19 cq20]; done) | (exfalso; omega)⟩)
                      · refine g_aload_n C dX12_reads_184 rfl 0 rfl ?_
                        refine g_get C i12 0 rfl rfl 0 (by decide) (List.mem_of_getElem? (i := 3) rfl) rfl rfl dX12_reads_185 ?_
                        refine g_aload_n C dX12_reads_188 rfl 0 rfl ?_
                        refine g_get C i12 0 rfl rfl 3 (by decide) (List.mem_of_getElem? (i := 4) rfl) rfl rfl dX12_reads_189 ?_
                        refine g_iald C 1 rfl (by omega) (by decide) dX12_reads_192 ?_
                        refine g_bipush C (nI 48) dX12_reads_193 (by decide) ?_
                        refine g_icmp_ne C 202 dX12_reads_195 (by decide) (fun cq21 => ?_) (fun cq21 => ?_)
                        · refine g_iconst C (nI 2) dX12_reads_202 (by decide) ?_
                          refine g_put C i12 tyX12 tyX12_ok nmX12 0 rfl rfl 4 (by decide) (List.mem_of_getElem? (i := 5) rfl) rfl rfl rfl rfl rfl (Nat.le_of_ble_eq_true rfl) dX12_reads_203 (ws' := [(m0, oB 12 [.ref x0, .int (nI n), .int (nI p), .int (nI w), .int (nI 2), .int x, .ref x1, .ref x2, .ref x3, .ref x4, .int (nI und), .ref x5, .ref x6, .int (nI nt), .ref x7, .ref x8, .long tr, .ref x9]), (x0, iA E 200 tx)]) rfl ?_
                          refine g_goto C 292 dX12_reads_206 (by decide) ?_
                          exact g_vret C X dX12_reads_292 (⟨rfl, by first | (rw [rdv_end hS (by omega)]; done) | (rw [rdv_num hS (by omega) hdg, hR, numR]; simp [cq1, cq2, cq8, cq14, cq18, cq19, cq20, cq21]; done) | (rw [rdv_num hS (by omega) hdg, hR, numR]; simp [cq1, cq2, cq8, cq14, cq18, cq19, cq20, cq21]; omega) | (rw [rdv_tok hS (by omega) hdg, tokR_1 (by first | exact Or.inl cq21 | exact Or.inr (Or.inl cq21) | exact Or.inr (Or.inr cq21))]; done) | (rw [rdv_tok hS (by omega) hdg, tokR_3 cq18 cq19 cq20 cq21]; done) | (rw [rdv_tok hS (by omega) hdg, tokR_4 cq18 cq19 cq20 cq21]; done) | (exfalso; omega)⟩)
                        · refine g_iconst C (nI 4) dX12_reads_198 (by decide) ?_
                          refine g_goto C 203 dX12_reads_199 (by decide) ?_
                          refine g_put C i12 tyX12 tyX12_ok nmX12 0 rfl rfl 4 (by decide) (List.mem_of_getElem? (i := 5) rfl) rfl rfl rfl rfl rfl (Nat.le_of_ble_eq_true rfl) dX12_reads_203 (ws' := [(m0, oB 12 [.ref x0, .int (nI n), .int (nI p), .int (nI w), .int (nI 4), .int x, .ref x1, .ref x2, .ref x3, .ref x4, .int (nI und), .ref x5, .ref x6, .int (nI nt), .ref x7, .ref x8, .long tr, .ref x9]), (x0, iA E 200 tx)]) rfl ?_
                          refine g_goto C 292 dX12_reads_206 (by decide) ?_
                          exact g_vret C X dX12_reads_292 (⟨rfl, by first | (rw [rdv_end hS (by omega)]; done) | (rw [rdv_num hS (by omega) hdg, hR, numR]; simp [cq1, cq2, cq8, cq14, cq18, cq19, cq20, cq21]; done) | (rw [rdv_num hS (by omega) hdg, hR, numR]; simp [cq1, cq2, cq8, cq14, cq18, cq19, cq20, cq21]; omega) | (rw [rdv_tok hS (by omega) hdg, tokR_1 (by first | exact Or.inl cq21 | exact Or.inr (Or.inl cq21) | exact Or.inr (Or.inr cq21))]; done) | (rw [rdv_tok hS (by omega) hdg, tokR_3 cq18 cq19 cq20 cq21]; done) | (rw [rdv_tok hS (by omega) hdg, tokR_4 cq18 cq19 cq20 cq21]; done) | (exfalso; omega)⟩)
                  · have hd9 : dig (tx p) := cq18
                    refine g_aload_n C dX12_reads_108 rfl 0 rfl ?_
                    refine g_aload_n C dX12_reads_109 rfl 0 rfl ?_
                    refine g_get C i12 0 rfl rfl 5 (by decide) (List.mem_of_getElem? (i := 6) rfl) rfl rfl dX12_reads_110 ?_
                    refine g_bipush C (nI 127) dX12_reads_113 (by decide) ?_
                    refine g_icmp_le C 125 dX12_reads_115 (by decide) (fun cq22 => ?_) (fun cq22 => ?_)
                    · refine g_bipush C (nI 10) dX12_reads_125 (by decide) ?_
                      refine g_aload_n C dX12_reads_127 rfl 0 rfl ?_
                      refine g_get C i12 0 rfl rfl 5 (by decide) (List.mem_of_getElem? (i := 6) rfl) rfl rfl dX12_reads_128 ?_
                      refine g_imul C dX12_reads_131 ?_
                      refine g_aload_n C dX12_reads_132 rfl 0 rfl ?_
                      refine g_get C i12 0 rfl rfl 0 (by decide) (List.mem_of_getElem? (i := 3) rfl) rfl rfl dX12_reads_133 ?_
                      refine g_aload_n C dX12_reads_136 rfl 0 rfl ?_
                      refine g_get C i12 0 rfl rfl 2 (by decide) (List.mem_of_getElem? (i := 1) rfl) rfl rfl dX12_reads_137 ?_
                      refine g_iald C 1 rfl (by omega) (by decide) dX12_reads_140 ?_
                      refine g_iadd C dX12_reads_141 ?_
                      refine g_bipush C (nI 48) dX12_reads_142 (by decide) ?_
                      refine g_isub C dX12_reads_144 ?_
                      refine g_put C i12 tyX12 tyX12_ok nmX12 0 rfl rfl 5 (by decide) (List.mem_of_getElem? (i := 6) rfl) rfl rfl rfl rfl rfl (Nat.le_of_ble_eq_true rfl) dX12_reads_145 (ws' := [(m0, oB 12 [.ref x0, .int (nI n), .int (nI p), .int (nI w), .int (nI 0), .int ((((nI 10) * x) + (tx p)) - (nI 48)), .ref x1, .ref x2, .ref x3, .ref x4, .int (nI und), .ref x5, .ref x6, .int (nI nt), .ref x7, .ref x8, .long tr, .ref x9]), (x0, iA E 200 tx)]) rfl ?_
                      refine g_aload_n C dX12_reads_148 rfl 0 rfl ?_
                      refine g_dup C dX12_reads_149 rfl ?_
                      refine g_get C i12 0 rfl rfl 2 (by decide) (List.mem_of_getElem? (i := 1) rfl) rfl rfl dX12_reads_150 ?_
                      refine g_iconst C (nI 1) dX12_reads_153 (by decide) ?_
                      refine g_iaddN C dX12_reads_154 ?_
                      refine g_put C i12 tyX12 tyX12_ok nmX12 0 rfl rfl 2 (by decide) (List.mem_of_getElem? (i := 1) rfl) rfl rfl rfl rfl rfl (Nat.le_of_ble_eq_true rfl) dX12_reads_155 (ws' := [(m0, oB 12 [.ref x0, .int (nI n), .int (nI (p + 1)), .int (nI w), .int (nI 0), .int ((((nI 10) * x) + (tx p)) - (nI 48)), .ref x1, .ref x2, .ref x3, .ref x4, .int (nI und), .ref x5, .ref x6, .int (nI nt), .ref x7, .ref x8, .long tr, .ref x9]), (x0, iA E 200 tx)]) rfl ?_
                      refine g_goto C 82 dX12_reads_158 (by decide) ?_
                      exact ihL82 (p + 1) ((((nI 10) * x) + (tx p)) - (nI 48)) (by omega) (by rw [← hc, show n - p = (n - (p + 1)) + 1 by omega, scn, if_pos hd9, nst]; first | (rw [if_neg (Int32.not_lt.mpr cq22), Int32.mul_comm]; done) | (rw [if_pos (Int32.not_le.mp cq22)]; done)) (by first | omega | (simp [hs, hw, cq1, hS, cq2, cq8, hdg, hc, hw3, hw2, cq14, cq18, hd9, cq22]; done)) (by first | omega | (simp [hs, hw, cq1, hS, cq2, cq8, hdg, hc, hw3, hw2, cq14, cq18, hd9, cq22]; done))
                    · refine g_aload_n C dX12_reads_118 rfl 0 rfl ?_
                      refine g_get C i12 0 rfl rfl 5 (by decide) (List.mem_of_getElem? (i := 6) rfl) rfl rfl dX12_reads_119 ?_
                      refine g_goto C 145 dX12_reads_122 (by decide) ?_
                      refine g_put C i12 tyX12 tyX12_ok nmX12 0 rfl rfl 5 (by decide) (List.mem_of_getElem? (i := 6) rfl) rfl rfl rfl rfl rfl (Nat.le_of_ble_eq_true rfl) dX12_reads_145 (ws' := [(m0, oB 12 [.ref x0, .int (nI n), .int (nI p), .int (nI w), .int (nI 0), .int x, .ref x1, .ref x2, .ref x3, .ref x4, .int (nI und), .ref x5, .ref x6, .int (nI nt), .ref x7, .ref x8, .long tr, .ref x9]), (x0, iA E 200 tx)]) rfl ?_
                      refine g_aload_n C dX12_reads_148 rfl 0 rfl ?_
                      refine g_dup C dX12_reads_149 rfl ?_
                      refine g_get C i12 0 rfl rfl 2 (by decide) (List.mem_of_getElem? (i := 1) rfl) rfl rfl dX12_reads_150 ?_
                      refine g_iconst C (nI 1) dX12_reads_153 (by decide) ?_
                      refine g_iaddN C dX12_reads_154 ?_
                      refine g_put C i12 tyX12 tyX12_ok nmX12 0 rfl rfl 2 (by decide) (List.mem_of_getElem? (i := 1) rfl) rfl rfl rfl rfl rfl (Nat.le_of_ble_eq_true rfl) dX12_reads_155 (ws' := [(m0, oB 12 [.ref x0, .int (nI n), .int (nI (p + 1)), .int (nI w), .int (nI 0), .int x, .ref x1, .ref x2, .ref x3, .ref x4, .int (nI und), .ref x5, .ref x6, .int (nI nt), .ref x7, .ref x8, .long tr, .ref x9]), (x0, iA E 200 tx)]) rfl ?_
                      refine g_goto C 82 dX12_reads_158 (by decide) ?_
                      exact ihL82 (p + 1) x (by omega) (by rw [← hc, show n - p = (n - (p + 1)) + 1 by omega, scn, if_pos hd9, nst]; first | (rw [if_neg (Int32.not_lt.mpr cq22), Int32.mul_comm]; done) | (rw [if_pos (Int32.not_le.mp cq22)]; done)) (by first | omega | (simp [hs, hw, cq1, hS, cq2, cq8, hdg, hc, hw3, hw2, cq14, cq18, hd9, cq22]; done)) (by first | omega | (simp [hs, hw, cq1, hS, cq2, cq8, hdg, hc, hw3, hw2, cq14, cq18, hd9, cq22]; done))
            exact L82 ((n - w) + 1) w (nI 0) (Nat.lt_succ_self _) (rfl) (Nat.le_refl w) (by omega)
      · refine g_aload_n C dX12_reads_11 rfl 0 rfl ?_
        refine g_get C i12 0 rfl rfl 0 (by decide) (List.mem_of_getElem? (i := 3) rfl) rfl rfl dX12_reads_12 ?_
        refine g_aload_n C dX12_reads_15 rfl 0 rfl ?_
        refine g_get C i12 0 rfl rfl 2 (by decide) (List.mem_of_getElem? (i := 1) rfl) rfl rfl dX12_reads_16 ?_
        refine g_iald C 1 rfl (by omega) (by decide) dX12_reads_19 ?_
        refine g_bipush C (nI 32) dX12_reads_20 (by decide) ?_
        refine g_icmp_ne C 38 dX12_reads_22 (by decide) (fun cq23 => ?_) (fun cq23 => ?_)
        · have hS : skp tx (n - Q.1) Q.1 = w := by rw [← hs, show n - w = (n - (w + 1)) + 1 by omega, skp, if_neg cq23]
          refine g_aload_n C dX12_reads_38 rfl 0 rfl ?_
          refine g_aload_n C dX12_reads_39 rfl 0 rfl ?_
          refine g_get C i12 0 rfl rfl 2 (by decide) (List.mem_of_getElem? (i := 1) rfl) rfl rfl dX12_reads_40 ?_
          refine g_put C i12 tyX12 tyX12_ok nmX12 0 rfl rfl 3 (by decide) (List.mem_of_getElem? (i := 4) rfl) rfl rfl rfl rfl rfl (Nat.le_of_ble_eq_true rfl) dX12_reads_43 (ws' := [(m0, oB 12 [.ref x0, .int (nI n), .int (nI w), .int (nI w), .int Q.2.1, .int Q.2.2.2, .ref x1, .ref x2, .ref x3, .ref x4, .int (nI und), .ref x5, .ref x6, .int (nI nt), .ref x7, .ref x8, .long tr, .ref x9]), (x0, iA E 200 tx)]) rfl ?_
          refine g_aload_n C dX12_reads_46 rfl 0 rfl ?_
          refine g_iconst C (nI 0) dX12_reads_47 (by decide) ?_
          refine g_put C i12 tyX12 tyX12_ok nmX12 0 rfl rfl 4 (by decide) (List.mem_of_getElem? (i := 5) rfl) rfl rfl rfl rfl rfl (Nat.le_of_ble_eq_true rfl) dX12_reads_48 (ws' := [(m0, oB 12 [.ref x0, .int (nI n), .int (nI w), .int (nI w), .int (nI 0), .int Q.2.2.2, .ref x1, .ref x2, .ref x3, .ref x4, .int (nI und), .ref x5, .ref x6, .int (nI nt), .ref x7, .ref x8, .long tr, .ref x9]), (x0, iA E 200 tx)]) rfl ?_
          refine g_aload_n C dX12_reads_51 rfl 0 rfl ?_
          refine g_get C i12 0 rfl rfl 2 (by decide) (List.mem_of_getElem? (i := 1) rfl) rfl rfl dX12_reads_52 ?_
          refine g_aload_n C dX12_reads_55 rfl 0 rfl ?_
          refine g_get C i12 0 rfl rfl 1 (by decide) (List.mem_of_getElem? (i := 2) rfl) rfl rfl dX12_reads_56 ?_
          refine g_icmp_geN C 209 dX12_reads_59 (by decide) (by omega) (by omega) (fun cq24 => ?_) (fun cq24 => ?_)
          · refine g_aload_n C dX12_reads_209 rfl 0 rfl ?_
            refine g_get C i12 0 rfl rfl 2 (by decide) (List.mem_of_getElem? (i := 1) rfl) rfl rfl dX12_reads_210 ?_
            refine g_aload_n C dX12_reads_213 rfl 0 rfl ?_
            refine g_get C i12 0 rfl rfl 1 (by decide) (List.mem_of_getElem? (i := 2) rfl) rfl rfl dX12_reads_214 ?_
            refine g_icmp_geN C 292 dX12_reads_217 (by decide) (by omega) (by omega) (fun cq25 => ?_) (fun cq25 => ?_)
            · exact g_vret C X dX12_reads_292 (⟨rfl, by first | (rw [rdv_end hS (by omega)]; done) | (rw [rdv_num hS (by omega) hdg, hR, numR]; simp [cq1, cq23, cq24, cq25]; done) | (rw [rdv_num hS (by omega) hdg, hR, numR]; simp [cq1, cq23, cq24, cq25]; omega) | (rw [rdv_tok hS (by omega) hdg, tokR_1 (by first | exact Or.inl cq25 | exact Or.inr (Or.inl cq25) | exact Or.inr (Or.inr cq25))]; done) | (rw [rdv_tok hS (by omega) hdg, tokR_3 cq1 cq23 cq24 cq25]; done) | (rw [rdv_tok hS (by omega) hdg, tokR_4 cq1 cq23 cq24 cq25]; done) | (exfalso; omega)⟩)
            · refine g_aload_n C dX12_reads_220 rfl 0 rfl ?_
              refine g_aload_n C dX12_reads_221 rfl 0 rfl ?_
              refine g_get C i12 0 rfl rfl 0 (by decide) (List.mem_of_getElem? (i := 3) rfl) rfl rfl dX12_reads_222 ?_
              refine g_aload_n C dX12_reads_225 rfl 0 rfl ?_
              refine g_get C i12 0 rfl rfl 2 (by decide) (List.mem_of_getElem? (i := 1) rfl) rfl rfl dX12_reads_226 ?_
              refine g_iald C 1 rfl (by omega) (by decide) dX12_reads_229 ?_
              refine g_put C i12 tyX12 tyX12_ok nmX12 0 rfl rfl 5 (by decide) (List.mem_of_getElem? (i := 6) rfl) rfl rfl rfl rfl rfl (Nat.le_of_ble_eq_true rfl) dX12_reads_230 (ws' := [(m0, oB 12 [.ref x0, .int (nI n), .int (nI w), .int (nI w), .int (nI 0), .int (tx w), .ref x1, .ref x2, .ref x3, .ref x4, .int (nI und), .ref x5, .ref x6, .int (nI nt), .ref x7, .ref x8, .long tr, .ref x9]), (x0, iA E 200 tx)]) rfl ?_
              refine g_aload_n C dX12_reads_233 rfl 0 rfl ?_
              refine g_aload_n C dX12_reads_234 rfl 0 rfl ?_
              refine g_get C i12 0 rfl rfl 5 (by decide) (List.mem_of_getElem? (i := 6) rfl) rfl rfl dX12_reads_235 ?_
              refine g_bipush C (nI 113) dX12_reads_238 (by decide) ?_
              refine g_icmp_eq C 261 dX12_reads_240 (by decide) (fun cq26 => ?_) (fun cq26 => ?_)
              · refine g_iconst C (nI 1) dX12_reads_261 (by decide) ?_
                refine g_goto C 279 dX12_reads_262 (by decide) ?_
                refine g_put C i12 tyX12 tyX12_ok nmX12 0 rfl rfl 4 (by decide) (List.mem_of_getElem? (i := 5) rfl) rfl rfl rfl rfl rfl (Nat.le_of_ble_eq_true rfl) dX12_reads_279 (ws' := [(m0, oB 12 [.ref x0, .int (nI n), .int (nI w), .int (nI w), .int (nI 1), .int (tx w), .ref x1, .ref x2, .ref x3, .ref x4, .int (nI und), .ref x5, .ref x6, .int (nI nt), .ref x7, .ref x8, .long tr, .ref x9]), (x0, iA E 200 tx)]) rfl ?_
                refine g_aload_n C dX12_reads_282 rfl 0 rfl ?_
                refine g_dup C dX12_reads_283 rfl ?_
                refine g_get C i12 0 rfl rfl 2 (by decide) (List.mem_of_getElem? (i := 1) rfl) rfl rfl dX12_reads_284 ?_
                refine g_iconst C (nI 1) dX12_reads_287 (by decide) ?_
                refine g_iaddN C dX12_reads_288 ?_
                refine g_put C i12 tyX12 tyX12_ok nmX12 0 rfl rfl 2 (by decide) (List.mem_of_getElem? (i := 1) rfl) rfl rfl rfl rfl rfl (Nat.le_of_ble_eq_true rfl) dX12_reads_289 (ws' := [(m0, oB 12 [.ref x0, .int (nI n), .int (nI (w + 1)), .int (nI w), .int (nI 1), .int (tx w), .ref x1, .ref x2, .ref x3, .ref x4, .int (nI und), .ref x5, .ref x6, .int (nI nt), .ref x7, .ref x8, .long tr, .ref x9]), (x0, iA E 200 tx)]) rfl ?_
                exact g_vret C X dX12_reads_292 (⟨rfl, by first | (rw [rdv_end hS (by omega)]; done) | (rw [rdv_num hS (by omega) hdg, hR, numR]; simp [cq1, cq23, cq24, cq25, cq26]; done) | (rw [rdv_num hS (by omega) hdg, hR, numR]; simp [cq1, cq23, cq24, cq25, cq26]; omega) | (rw [rdv_tok hS (by omega) hdg, tokR_1 (by first | exact Or.inl cq26 | exact Or.inr (Or.inl cq26) | exact Or.inr (Or.inr cq26))]; done) | (rw [rdv_tok hS (by omega) hdg, tokR_3 cq23 cq24 cq25 cq26]; done) | (rw [rdv_tok hS (by omega) hdg, tokR_4 cq23 cq24 cq25 cq26]; done) | (exfalso; omega)⟩)
              · refine g_aload_n C dX12_reads_243 rfl 0 rfl ?_
                refine g_get C i12 0 rfl rfl 5 (by decide) (List.mem_of_getElem? (i := 6) rfl) rfl rfl dX12_reads_244 ?_
                refine g_bipush C (nI 112) dX12_reads_247 (by decide) ?_
                refine g_icmp_eq C 261 dX12_reads_249 (by decide) (fun cq27 => ?_) (fun cq27 => ?_)
                · refine g_iconst C (nI 1) dX12_reads_261 (by decide) ?_
                  refine g_goto C 279 dX12_reads_262 (by decide) ?_
                  refine g_put C i12 tyX12 tyX12_ok nmX12 0 rfl rfl 4 (by decide) (List.mem_of_getElem? (i := 5) rfl) rfl rfl rfl rfl rfl (Nat.le_of_ble_eq_true rfl) dX12_reads_279 (ws' := [(m0, oB 12 [.ref x0, .int (nI n), .int (nI w), .int (nI w), .int (nI 1), .int (tx w), .ref x1, .ref x2, .ref x3, .ref x4, .int (nI und), .ref x5, .ref x6, .int (nI nt), .ref x7, .ref x8, .long tr, .ref x9]), (x0, iA E 200 tx)]) rfl ?_
                  refine g_aload_n C dX12_reads_282 rfl 0 rfl ?_
                  refine g_dup C dX12_reads_283 rfl ?_
                  refine g_get C i12 0 rfl rfl 2 (by decide) (List.mem_of_getElem? (i := 1) rfl) rfl rfl dX12_reads_284 ?_
                  refine g_iconst C (nI 1) dX12_reads_287 (by decide) ?_
                  refine g_iaddN C dX12_reads_288 ?_
                  refine g_put C i12 tyX12 tyX12_ok nmX12 0 rfl rfl 2 (by decide) (List.mem_of_getElem? (i := 1) rfl) rfl rfl rfl rfl rfl (Nat.le_of_ble_eq_true rfl) dX12_reads_289 (ws' := [(m0, oB 12 [.ref x0, .int (nI n), .int (nI (w + 1)), .int (nI w), .int (nI 1), .int (tx w), .ref x1, .ref x2, .ref x3, .ref x4, .int (nI und), .ref x5, .ref x6, .int (nI nt), .ref x7, .ref x8, .long tr, .ref x9]), (x0, iA E 200 tx)]) rfl ?_
                  exact g_vret C X dX12_reads_292 (⟨rfl, by first | (rw [rdv_end hS (by omega)]; done) | (rw [rdv_num hS (by omega) hdg, hR, numR]; simp [cq1, cq23, cq24, cq25, cq26, cq27]; done) | (rw [rdv_num hS (by omega) hdg, hR, numR]; simp [cq1, cq23, cq24, cq25, cq26, cq27]; omega) | (rw [rdv_tok hS (by omega) hdg, tokR_1 (by first | exact Or.inl cq27 | exact Or.inr (Or.inl cq27) | exact Or.inr (Or.inr cq27))]; done) | (rw [rdv_tok hS (by omega) hdg, tokR_3 cq24 cq25 cq26 cq27]; done) | (rw [rdv_tok hS (by omega) hdg, tokR_4 cq24 cq25 cq26 cq27]; done) | (exfalso; omega)⟩)
                · refine g_aload_n C dX12_reads_252 rfl 0 rfl ?_
                  refine g_get C i12 0 rfl rfl 5 (by decide) (List.mem_of_getElem? (i := 6) rfl) rfl rfl dX12_reads_253 ?_
                  refine g_bipush C (nI 120) dX12_reads_256 (by decide) ?_
                  refine g_icmp_ne C 265 dX12_reads_258 (by decide) (fun cq28 => ?_) (fun cq28 => ?_)
                  · refine g_aload_n C dX12_reads_265 rfl 0 rfl ?_
                    refine g_get C i12 0 rfl rfl 5 (by decide) (List.mem_of_getElem? (i := 6) rfl) rfl rfl dX12_reads_266 ?_
                    refine g_bipush C (nI 59) dX12_reads_269 (by decide) ?_
                    refine g_icmp_ne C 278 dX12_reads_271 (by decide) (fun cq29 => ?_) (fun cq29 => ?_)
                    · refine g_iconst C (nI 4) dX12_reads_278 (by decide) ?_
                      refine g_put C i12 tyX12 tyX12_ok nmX12 0 rfl rfl 4 (by decide) (List.mem_of_getElem? (i := 5) rfl) rfl rfl rfl rfl rfl (Nat.le_of_ble_eq_true rfl) dX12_reads_279 (ws' := [(m0, oB 12 [.ref x0, .int (nI n), .int (nI w), .int (nI w), .int (nI 4), .int (tx w), .ref x1, .ref x2, .ref x3, .ref x4, .int (nI und), .ref x5, .ref x6, .int (nI nt), .ref x7, .ref x8, .long tr, .ref x9]), (x0, iA E 200 tx)]) rfl ?_
                      refine g_aload_n C dX12_reads_282 rfl 0 rfl ?_
                      refine g_dup C dX12_reads_283 rfl ?_
                      refine g_get C i12 0 rfl rfl 2 (by decide) (List.mem_of_getElem? (i := 1) rfl) rfl rfl dX12_reads_284 ?_
                      refine g_iconst C (nI 1) dX12_reads_287 (by decide) ?_
                      refine g_iaddN C dX12_reads_288 ?_
                      refine g_put C i12 tyX12 tyX12_ok nmX12 0 rfl rfl 2 (by decide) (List.mem_of_getElem? (i := 1) rfl) rfl rfl rfl rfl rfl (Nat.le_of_ble_eq_true rfl) dX12_reads_289 (ws' := [(m0, oB 12 [.ref x0, .int (nI n), .int (nI (w + 1)), .int (nI w), .int (nI 4), .int (tx w), .ref x1, .ref x2, .ref x3, .ref x4, .int (nI und), .ref x5, .ref x6, .int (nI nt), .ref x7, .ref x8, .long tr, .ref x9]), (x0, iA E 200 tx)]) rfl ?_
                      exact g_vret C X dX12_reads_292 (⟨rfl, by first | (rw [rdv_end hS (by omega)]; done) | (rw [rdv_num hS (by omega) hdg, hR, numR]; simp [cq1, cq23, cq24, cq25, cq26, cq27, cq28, cq29]; done) | (rw [rdv_num hS (by omega) hdg, hR, numR]; simp [cq1, cq23, cq24, cq25, cq26, cq27, cq28, cq29]; omega) | (rw [rdv_tok hS (by omega) hdg, tokR_1 (by first | exact Or.inl cq29 | exact Or.inr (Or.inl cq29) | exact Or.inr (Or.inr cq29))]; done) | (rw [rdv_tok hS (by omega) hdg, tokR_3 cq26 cq27 cq28 cq29]; done) | (rw [rdv_tok hS (by omega) hdg, tokR_4 cq26 cq27 cq28 cq29]; done) | (exfalso; omega)⟩)
                    · refine g_iconst C (nI 3) dX12_reads_274 (by decide) ?_
                      refine g_goto C 279 dX12_reads_275 (by decide) ?_
                      refine g_put C i12 tyX12 tyX12_ok nmX12 0 rfl rfl 4 (by decide) (List.mem_of_getElem? (i := 5) rfl) rfl rfl rfl rfl rfl (Nat.le_of_ble_eq_true rfl) dX12_reads_279 (ws' := [(m0, oB 12 [.ref x0, .int (nI n), .int (nI w), .int (nI w), .int (nI 3), .int (tx w), .ref x1, .ref x2, .ref x3, .ref x4, .int (nI und), .ref x5, .ref x6, .int (nI nt), .ref x7, .ref x8, .long tr, .ref x9]), (x0, iA E 200 tx)]) rfl ?_
                      refine g_aload_n C dX12_reads_282 rfl 0 rfl ?_
                      refine g_dup C dX12_reads_283 rfl ?_
                      refine g_get C i12 0 rfl rfl 2 (by decide) (List.mem_of_getElem? (i := 1) rfl) rfl rfl dX12_reads_284 ?_
                      refine g_iconst C (nI 1) dX12_reads_287 (by decide) ?_
                      refine g_iaddN C dX12_reads_288 ?_
                      refine g_put C i12 tyX12 tyX12_ok nmX12 0 rfl rfl 2 (by decide) (List.mem_of_getElem? (i := 1) rfl) rfl rfl rfl rfl rfl (Nat.le_of_ble_eq_true rfl) dX12_reads_289 (ws' := [(m0, oB 12 [.ref x0, .int (nI n), .int (nI (w + 1)), .int (nI w), .int (nI 3), .int (tx w), .ref x1, .ref x2, .ref x3, .ref x4, .int (nI und), .ref x5, .ref x6, .int (nI nt), .ref x7, .ref x8, .long tr, .ref x9]), (x0, iA E 200 tx)]) rfl ?_
                      exact g_vret C X dX12_reads_292 (⟨rfl, by first | (rw [rdv_end hS (by omega)]; done) | (rw [rdv_num hS (by omega) hdg, hR, numR]; simp [cq1, cq23, cq24, cq25, cq26, cq27, cq28, cq29]; done) | (rw [rdv_num hS (by omega) hdg, hR, numR]; simp [cq1, cq23, cq24, cq25, cq26, cq27, cq28, cq29]; omega) | (rw [rdv_tok hS (by omega) hdg, tokR_1 (by first | exact Or.inl cq29 | exact Or.inr (Or.inl cq29) | exact Or.inr (Or.inr cq29))]; done) | (rw [rdv_tok hS (by omega) hdg, tokR_3 cq26 cq27 cq28 cq29]; done) | (rw [rdv_tok hS (by omega) hdg, tokR_4 cq26 cq27 cq28 cq29]; done) | (exfalso; omega)⟩)
                  · refine g_iconst C (nI 1) dX12_reads_261 (by decide) ?_
                    refine g_goto C 279 dX12_reads_262 (by decide) ?_
                    refine g_put C i12 tyX12 tyX12_ok nmX12 0 rfl rfl 4 (by decide) (List.mem_of_getElem? (i := 5) rfl) rfl rfl rfl rfl rfl (Nat.le_of_ble_eq_true rfl) dX12_reads_279 (ws' := [(m0, oB 12 [.ref x0, .int (nI n), .int (nI w), .int (nI w), .int (nI 1), .int (tx w), .ref x1, .ref x2, .ref x3, .ref x4, .int (nI und), .ref x5, .ref x6, .int (nI nt), .ref x7, .ref x8, .long tr, .ref x9]), (x0, iA E 200 tx)]) rfl ?_
                    refine g_aload_n C dX12_reads_282 rfl 0 rfl ?_
                    refine g_dup C dX12_reads_283 rfl ?_
                    refine g_get C i12 0 rfl rfl 2 (by decide) (List.mem_of_getElem? (i := 1) rfl) rfl rfl dX12_reads_284 ?_
                    refine g_iconst C (nI 1) dX12_reads_287 (by decide) ?_
                    refine g_iaddN C dX12_reads_288 ?_
                    refine g_put C i12 tyX12 tyX12_ok nmX12 0 rfl rfl 2 (by decide) (List.mem_of_getElem? (i := 1) rfl) rfl rfl rfl rfl rfl (Nat.le_of_ble_eq_true rfl) dX12_reads_289 (ws' := [(m0, oB 12 [.ref x0, .int (nI n), .int (nI (w + 1)), .int (nI w), .int (nI 1), .int (tx w), .ref x1, .ref x2, .ref x3, .ref x4, .int (nI und), .ref x5, .ref x6, .int (nI nt), .ref x7, .ref x8, .long tr, .ref x9]), (x0, iA E 200 tx)]) rfl ?_
                    exact g_vret C X dX12_reads_292 (⟨rfl, by first | (rw [rdv_end hS (by omega)]; done) | (rw [rdv_num hS (by omega) hdg, hR, numR]; simp [cq1, cq23, cq24, cq25, cq26, cq27, cq28]; done) | (rw [rdv_num hS (by omega) hdg, hR, numR]; simp [cq1, cq23, cq24, cq25, cq26, cq27, cq28]; omega) | (rw [rdv_tok hS (by omega) hdg, tokR_1 (by first | exact Or.inl cq28 | exact Or.inr (Or.inl cq28) | exact Or.inr (Or.inr cq28))]; done) | (rw [rdv_tok hS (by omega) hdg, tokR_3 cq25 cq26 cq27 cq28]; done) | (rw [rdv_tok hS (by omega) hdg, tokR_4 cq25 cq26 cq27 cq28]; done) | (exfalso; omega)⟩)
          · refine g_aload_n C dX12_reads_62 rfl 0 rfl ?_
            refine g_get C i12 0 rfl rfl 0 (by decide) (List.mem_of_getElem? (i := 3) rfl) rfl rfl dX12_reads_63 ?_
            refine g_aload_n C dX12_reads_66 rfl 0 rfl ?_
            refine g_get C i12 0 rfl rfl 2 (by decide) (List.mem_of_getElem? (i := 1) rfl) rfl rfl dX12_reads_67 ?_
            refine g_iald C 1 rfl (by omega) (by decide) dX12_reads_70 ?_
            refine g_callS C (rest := []) (n := 1) (kX12_isFigure l E (tx w) ) gX12_reads_X12_isFigure rfl ⟨rfl, rfl⟩ (by decide) (Nat.le_of_ble_eq_true rfl) rfl (by decide +kernel) rfl dX12_reads_71 [] [0, 1] rfl rfl ?_
            refine g_is1 (ws2 := [(m0, oB 12 [.ref x0, .int (nI n), .int (nI w), .int (nI w), .int (nI 0), .int Q.2.2.2, .ref x1, .ref x2, .ref x3, .ref x4, .int (nI und), .ref x5, .ref x6, .int (nI nt), .ref x7, .ref x8, .long tr, .ref x9]), (x0, iA E 200 tx)]) (st2 := [.int (bI (dig (tx w)))]) [0, 1] rfl rfl rfl ?_
            refine g_if_eqB C 209 dX12_reads_74 (by decide) (fun cq30 => ?_) (fun cq30 => ?_)
            · have hdg : ¬ dig (tx w) := cq30
              refine g_aload_n C dX12_reads_209 rfl 0 rfl ?_
              refine g_get C i12 0 rfl rfl 2 (by decide) (List.mem_of_getElem? (i := 1) rfl) rfl rfl dX12_reads_210 ?_
              refine g_aload_n C dX12_reads_213 rfl 0 rfl ?_
              refine g_get C i12 0 rfl rfl 1 (by decide) (List.mem_of_getElem? (i := 2) rfl) rfl rfl dX12_reads_214 ?_
              refine g_icmp_geN C 292 dX12_reads_217 (by decide) (by omega) (by omega) (fun cq31 => ?_) (fun cq31 => ?_)
              · exact g_vret C X dX12_reads_292 (⟨rfl, by first | (rw [rdv_end hS (by omega)]; done) | (rw [rdv_num hS (by omega) hdg, hR, numR]; simp [cq1, cq23, cq24, cq30, cq31]; done) | (rw [rdv_num hS (by omega) hdg, hR, numR]; simp [cq1, cq23, cq24, cq30, cq31]; omega) | (rw [rdv_tok hS (by omega) hdg, tokR_1 (by first | exact Or.inl cq31 | exact Or.inr (Or.inl cq31) | exact Or.inr (Or.inr cq31))]; done) | (rw [rdv_tok hS (by omega) hdg, tokR_3 cq23 cq24 cq30 cq31]; done) | (rw [rdv_tok hS (by omega) hdg, tokR_4 cq23 cq24 cq30 cq31]; done) | (exfalso; omega)⟩)
              · refine g_aload_n C dX12_reads_220 rfl 0 rfl ?_
                refine g_aload_n C dX12_reads_221 rfl 0 rfl ?_
                refine g_get C i12 0 rfl rfl 0 (by decide) (List.mem_of_getElem? (i := 3) rfl) rfl rfl dX12_reads_222 ?_
                refine g_aload_n C dX12_reads_225 rfl 0 rfl ?_
                refine g_get C i12 0 rfl rfl 2 (by decide) (List.mem_of_getElem? (i := 1) rfl) rfl rfl dX12_reads_226 ?_
                refine g_iald C 1 rfl (by omega) (by decide) dX12_reads_229 ?_
                refine g_put C i12 tyX12 tyX12_ok nmX12 0 rfl rfl 5 (by decide) (List.mem_of_getElem? (i := 6) rfl) rfl rfl rfl rfl rfl (Nat.le_of_ble_eq_true rfl) dX12_reads_230 (ws' := [(m0, oB 12 [.ref x0, .int (nI n), .int (nI w), .int (nI w), .int (nI 0), .int (tx w), .ref x1, .ref x2, .ref x3, .ref x4, .int (nI und), .ref x5, .ref x6, .int (nI nt), .ref x7, .ref x8, .long tr, .ref x9]), (x0, iA E 200 tx)]) rfl ?_
                refine g_aload_n C dX12_reads_233 rfl 0 rfl ?_
                refine g_aload_n C dX12_reads_234 rfl 0 rfl ?_
                refine g_get C i12 0 rfl rfl 5 (by decide) (List.mem_of_getElem? (i := 6) rfl) rfl rfl dX12_reads_235 ?_
                refine g_bipush C (nI 113) dX12_reads_238 (by decide) ?_
                refine g_icmp_eq C 261 dX12_reads_240 (by decide) (fun cq32 => ?_) (fun cq32 => ?_)
                · refine g_iconst C (nI 1) dX12_reads_261 (by decide) ?_
                  refine g_goto C 279 dX12_reads_262 (by decide) ?_
                  refine g_put C i12 tyX12 tyX12_ok nmX12 0 rfl rfl 4 (by decide) (List.mem_of_getElem? (i := 5) rfl) rfl rfl rfl rfl rfl (Nat.le_of_ble_eq_true rfl) dX12_reads_279 (ws' := [(m0, oB 12 [.ref x0, .int (nI n), .int (nI w), .int (nI w), .int (nI 1), .int (tx w), .ref x1, .ref x2, .ref x3, .ref x4, .int (nI und), .ref x5, .ref x6, .int (nI nt), .ref x7, .ref x8, .long tr, .ref x9]), (x0, iA E 200 tx)]) rfl ?_
                  refine g_aload_n C dX12_reads_282 rfl 0 rfl ?_
                  refine g_dup C dX12_reads_283 rfl ?_
                  refine g_get C i12 0 rfl rfl 2 (by decide) (List.mem_of_getElem? (i := 1) rfl) rfl rfl dX12_reads_284 ?_
                  refine g_iconst C (nI 1) dX12_reads_287 (by decide) ?_
                  refine g_iaddN C dX12_reads_288 ?_
                  refine g_put C i12 tyX12 tyX12_ok nmX12 0 rfl rfl 2 (by decide) (List.mem_of_getElem? (i := 1) rfl) rfl rfl rfl rfl rfl (Nat.le_of_ble_eq_true rfl) dX12_reads_289 (ws' := [(m0, oB 12 [.ref x0, .int (nI n), .int (nI (w + 1)), .int (nI w), .int (nI 1), .int (tx w), .ref x1, .ref x2, .ref x3, .ref x4, .int (nI und), .ref x5, .ref x6, .int (nI nt), .ref x7, .ref x8, .long tr, .ref x9]), (x0, iA E 200 tx)]) rfl ?_
                  exact g_vret C X dX12_reads_292 (⟨rfl, by first | (rw [rdv_end hS (by omega)]; done) | (rw [rdv_num hS (by omega) hdg, hR, numR]; simp [cq1, cq23, cq24, cq30, cq31, cq32]; done) | (rw [rdv_num hS (by omega) hdg, hR, numR]; simp [cq1, cq23, cq24, cq30, cq31, cq32]; omega) | (rw [rdv_tok hS (by omega) hdg, tokR_1 (by first | exact Or.inl cq32 | exact Or.inr (Or.inl cq32) | exact Or.inr (Or.inr cq32))]; done) | (rw [rdv_tok hS (by omega) hdg, tokR_3 cq24 cq30 cq31 cq32]; done) | (rw [rdv_tok hS (by omega) hdg, tokR_4 cq24 cq30 cq31 cq32]; done) | (exfalso; omega)⟩)
                · refine g_aload_n C dX12_reads_243 rfl 0 rfl ?_
                  refine g_get C i12 0 rfl rfl 5 (by decide) (List.mem_of_getElem? (i := 6) rfl) rfl rfl dX12_reads_244 ?_
                  refine g_bipush C (nI 112) dX12_reads_247 (by decide) ?_
                  refine g_icmp_eq C 261 dX12_reads_249 (by decide) (fun cq33 => ?_) (fun cq33 => ?_)
                  · refine g_iconst C (nI 1) dX12_reads_261 (by decide) ?_
                    refine g_goto C 279 dX12_reads_262 (by decide) ?_
                    refine g_put C i12 tyX12 tyX12_ok nmX12 0 rfl rfl 4 (by decide) (List.mem_of_getElem? (i := 5) rfl) rfl rfl rfl rfl rfl (Nat.le_of_ble_eq_true rfl) dX12_reads_279 (ws' := [(m0, oB 12 [.ref x0, .int (nI n), .int (nI w), .int (nI w), .int (nI 1), .int (tx w), .ref x1, .ref x2, .ref x3, .ref x4, .int (nI und), .ref x5, .ref x6, .int (nI nt), .ref x7, .ref x8, .long tr, .ref x9]), (x0, iA E 200 tx)]) rfl ?_
                    refine g_aload_n C dX12_reads_282 rfl 0 rfl ?_
                    refine g_dup C dX12_reads_283 rfl ?_
                    refine g_get C i12 0 rfl rfl 2 (by decide) (List.mem_of_getElem? (i := 1) rfl) rfl rfl dX12_reads_284 ?_
                    refine g_iconst C (nI 1) dX12_reads_287 (by decide) ?_
                    refine g_iaddN C dX12_reads_288 ?_
                    refine g_put C i12 tyX12 tyX12_ok nmX12 0 rfl rfl 2 (by decide) (List.mem_of_getElem? (i := 1) rfl) rfl rfl rfl rfl rfl (Nat.le_of_ble_eq_true rfl) dX12_reads_289 (ws' := [(m0, oB 12 [.ref x0, .int (nI n), .int (nI (w + 1)), .int (nI w), .int (nI 1), .int (tx w), .ref x1, .ref x2, .ref x3, .ref x4, .int (nI und), .ref x5, .ref x6, .int (nI nt), .ref x7, .ref x8, .long tr, .ref x9]), (x0, iA E 200 tx)]) rfl ?_
                    exact g_vret C X dX12_reads_292 (⟨rfl, by first | (rw [rdv_end hS (by omega)]; done) | (rw [rdv_num hS (by omega) hdg, hR, numR]; simp [cq1, cq23, cq24, cq30, cq31, cq32, cq33]; done) | (rw [rdv_num hS (by omega) hdg, hR, numR]; simp [cq1, cq23, cq24, cq30, cq31, cq32, cq33]; omega) | (rw [rdv_tok hS (by omega) hdg, tokR_1 (by first | exact Or.inl cq33 | exact Or.inr (Or.inl cq33) | exact Or.inr (Or.inr cq33))]; done) | (rw [rdv_tok hS (by omega) hdg, tokR_3 cq30 cq31 cq32 cq33]; done) | (rw [rdv_tok hS (by omega) hdg, tokR_4 cq30 cq31 cq32 cq33]; done) | (exfalso; omega)⟩)
                  · refine g_aload_n C dX12_reads_252 rfl 0 rfl ?_
                    refine g_get C i12 0 rfl rfl 5 (by decide) (List.mem_of_getElem? (i := 6) rfl) rfl rfl dX12_reads_253 ?_
                    refine g_bipush C (nI 120) dX12_reads_256 (by decide) ?_
                    refine g_icmp_ne C 265 dX12_reads_258 (by decide) (fun cq34 => ?_) (fun cq34 => ?_)
                    · refine g_aload_n C dX12_reads_265 rfl 0 rfl ?_
                      refine g_get C i12 0 rfl rfl 5 (by decide) (List.mem_of_getElem? (i := 6) rfl) rfl rfl dX12_reads_266 ?_
                      refine g_bipush C (nI 59) dX12_reads_269 (by decide) ?_
                      refine g_icmp_ne C 278 dX12_reads_271 (by decide) (fun cq35 => ?_) (fun cq35 => ?_)
                      · refine g_iconst C (nI 4) dX12_reads_278 (by decide) ?_
                        refine g_put C i12 tyX12 tyX12_ok nmX12 0 rfl rfl 4 (by decide) (List.mem_of_getElem? (i := 5) rfl) rfl rfl rfl rfl rfl (Nat.le_of_ble_eq_true rfl) dX12_reads_279 (ws' := [(m0, oB 12 [.ref x0, .int (nI n), .int (nI w), .int (nI w), .int (nI 4), .int (tx w), .ref x1, .ref x2, .ref x3, .ref x4, .int (nI und), .ref x5, .ref x6, .int (nI nt), .ref x7, .ref x8, .long tr, .ref x9]), (x0, iA E 200 tx)]) rfl ?_
                        refine g_aload_n C dX12_reads_282 rfl 0 rfl ?_
                        refine g_dup C dX12_reads_283 rfl ?_
                        refine g_get C i12 0 rfl rfl 2 (by decide) (List.mem_of_getElem? (i := 1) rfl) rfl rfl dX12_reads_284 ?_
                        refine g_iconst C (nI 1) dX12_reads_287 (by decide) ?_
                        refine g_iaddN C dX12_reads_288 ?_
                        refine g_put C i12 tyX12 tyX12_ok nmX12 0 rfl rfl 2 (by decide) (List.mem_of_getElem? (i := 1) rfl) rfl rfl rfl rfl rfl (Nat.le_of_ble_eq_true rfl) dX12_reads_289 (ws' := [(m0, oB 12 [.ref x0, .int (nI n), .int (nI (w + 1)), .int (nI w), .int (nI 4), .int (tx w), .ref x1, .ref x2, .ref x3, .ref x4, .int (nI und), .ref x5, .ref x6, .int (nI nt), .ref x7, .ref x8, .long tr, .ref x9]), (x0, iA E 200 tx)]) rfl ?_
                        exact g_vret C X dX12_reads_292 (⟨rfl, by first | (rw [rdv_end hS (by omega)]; done) | (rw [rdv_num hS (by omega) hdg, hR, numR]; simp [cq1, cq23, cq24, cq30, cq31, cq32, cq33, cq34, cq35]; done) | (rw [rdv_num hS (by omega) hdg, hR, numR]; simp [cq1, cq23, cq24, cq30, cq31, cq32, cq33, cq34, cq35]; omega) | (rw [rdv_tok hS (by omega) hdg, tokR_1 (by first | exact Or.inl cq35 | exact Or.inr (Or.inl cq35) | exact Or.inr (Or.inr cq35))]; done) | (rw [rdv_tok hS (by omega) hdg, tokR_3 cq32 cq33 cq34 cq35]; done) | (rw [rdv_tok hS (by omega) hdg, tokR_4 cq32 cq33 cq34 cq35]; done) | (exfalso; omega)⟩)
                      · refine g_iconst C (nI 3) dX12_reads_274 (by decide) ?_
                        refine g_goto C 279 dX12_reads_275 (by decide) ?_
                        refine g_put C i12 tyX12 tyX12_ok nmX12 0 rfl rfl 4 (by decide) (List.mem_of_getElem? (i := 5) rfl) rfl rfl rfl rfl rfl (Nat.le_of_ble_eq_true rfl) dX12_reads_279 (ws' := [(m0, oB 12 [.ref x0, .int (nI n), .int (nI w), .int (nI w), .int (nI 3), .int (tx w), .ref x1, .ref x2, .ref x3, .ref x4, .int (nI und), .ref x5, .ref x6, .int (nI nt), .ref x7, .ref x8, .long tr, .ref x9]), (x0, iA E 200 tx)]) rfl ?_
                        refine g_aload_n C dX12_reads_282 rfl 0 rfl ?_
                        refine g_dup C dX12_reads_283 rfl ?_
                        refine g_get C i12 0 rfl rfl 2 (by decide) (List.mem_of_getElem? (i := 1) rfl) rfl rfl dX12_reads_284 ?_
                        refine g_iconst C (nI 1) dX12_reads_287 (by decide) ?_
                        refine g_iaddN C dX12_reads_288 ?_
                        refine g_put C i12 tyX12 tyX12_ok nmX12 0 rfl rfl 2 (by decide) (List.mem_of_getElem? (i := 1) rfl) rfl rfl rfl rfl rfl (Nat.le_of_ble_eq_true rfl) dX12_reads_289 (ws' := [(m0, oB 12 [.ref x0, .int (nI n), .int (nI (w + 1)), .int (nI w), .int (nI 3), .int (tx w), .ref x1, .ref x2, .ref x3, .ref x4, .int (nI und), .ref x5, .ref x6, .int (nI nt), .ref x7, .ref x8, .long tr, .ref x9]), (x0, iA E 200 tx)]) rfl ?_
                        exact g_vret C X dX12_reads_292 (⟨rfl, by first | (rw [rdv_end hS (by omega)]; done) | (rw [rdv_num hS (by omega) hdg, hR, numR]; simp [cq1, cq23, cq24, cq30, cq31, cq32, cq33, cq34, cq35]; done) | (rw [rdv_num hS (by omega) hdg, hR, numR]; simp [cq1, cq23, cq24, cq30, cq31, cq32, cq33, cq34, cq35]; omega) | (rw [rdv_tok hS (by omega) hdg, tokR_1 (by first | exact Or.inl cq35 | exact Or.inr (Or.inl cq35) | exact Or.inr (Or.inr cq35))]; done) | (rw [rdv_tok hS (by omega) hdg, tokR_3 cq32 cq33 cq34 cq35]; done) | (rw [rdv_tok hS (by omega) hdg, tokR_4 cq32 cq33 cq34 cq35]; done) | (exfalso; omega)⟩)
                    · refine g_iconst C (nI 1) dX12_reads_261 (by decide) ?_
                      refine g_goto C 279 dX12_reads_262 (by decide) ?_
                      refine g_put C i12 tyX12 tyX12_ok nmX12 0 rfl rfl 4 (by decide) (List.mem_of_getElem? (i := 5) rfl) rfl rfl rfl rfl rfl (Nat.le_of_ble_eq_true rfl) dX12_reads_279 (ws' := [(m0, oB 12 [.ref x0, .int (nI n), .int (nI w), .int (nI w), .int (nI 1), .int (tx w), .ref x1, .ref x2, .ref x3, .ref x4, .int (nI und), .ref x5, .ref x6, .int (nI nt), .ref x7, .ref x8, .long tr, .ref x9]), (x0, iA E 200 tx)]) rfl ?_
                      refine g_aload_n C dX12_reads_282 rfl 0 rfl ?_
                      refine g_dup C dX12_reads_283 rfl ?_
                      refine g_get C i12 0 rfl rfl 2 (by decide) (List.mem_of_getElem? (i := 1) rfl) rfl rfl dX12_reads_284 ?_
                      refine g_iconst C (nI 1) dX12_reads_287 (by decide) ?_
                      refine g_iaddN C dX12_reads_288 ?_
                      refine g_put C i12 tyX12 tyX12_ok nmX12 0 rfl rfl 2 (by decide) (List.mem_of_getElem? (i := 1) rfl) rfl rfl rfl rfl rfl (Nat.le_of_ble_eq_true rfl) dX12_reads_289 (ws' := [(m0, oB 12 [.ref x0, .int (nI n), .int (nI (w + 1)), .int (nI w), .int (nI 1), .int (tx w), .ref x1, .ref x2, .ref x3, .ref x4, .int (nI und), .ref x5, .ref x6, .int (nI nt), .ref x7, .ref x8, .long tr, .ref x9]), (x0, iA E 200 tx)]) rfl ?_
                      exact g_vret C X dX12_reads_292 (⟨rfl, by first | (rw [rdv_end hS (by omega)]; done) | (rw [rdv_num hS (by omega) hdg, hR, numR]; simp [cq1, cq23, cq24, cq30, cq31, cq32, cq33, cq34]; done) | (rw [rdv_num hS (by omega) hdg, hR, numR]; simp [cq1, cq23, cq24, cq30, cq31, cq32, cq33, cq34]; omega) | (rw [rdv_tok hS (by omega) hdg, tokR_1 (by first | exact Or.inl cq34 | exact Or.inr (Or.inl cq34) | exact Or.inr (Or.inr cq34))]; done) | (rw [rdv_tok hS (by omega) hdg, tokR_3 cq31 cq32 cq33 cq34]; done) | (rw [rdv_tok hS (by omega) hdg, tokR_4 cq31 cq32 cq33 cq34]; done) | (exfalso; omega)⟩)
            · have hdg : dig (tx w) := cq30
              refine g_aload_n C dX12_reads_77 rfl 0 rfl ?_
              refine g_iconst C (nI 0) dX12_reads_78 (by decide) ?_
              refine g_put C i12 tyX12 tyX12_ok nmX12 0 rfl rfl 5 (by decide) (List.mem_of_getElem? (i := 6) rfl) rfl rfl rfl rfl rfl (Nat.le_of_ble_eq_true rfl) dX12_reads_79 (ws' := [(m0, oB 12 [.ref x0, .int (nI n), .int (nI w), .int (nI w), .int (nI 0), .int (nI 0), .ref x1, .ref x2, .ref x3, .ref x4, .int (nI und), .ref x5, .ref x6, .int (nI nt), .ref x7, .ref x8, .long tr, .ref x9]), (x0, iA E 200 tx)]) rfl ?_
              have L82x : ∀ (zz : Nat) (p : Nat) (x : Int32), (n - p) < zz → (scn tx (n - p) p x = scn tx (n - w) w (nI 0)) → (w ≤ p) → (p ≤ n) → G K 0 0 82 [(0, .ref m0)] [] [(m0, oB 12 [.ref x0, .int (nI n), .int (nI p), .int (nI w), .int (nI 0), .int x, .ref x1, .ref x2, .ref x3, .ref x4, .int (nI und), .ref x5, .ref x6, .int (nI nt), .ref x7, .ref x8, .long tr, .ref x9]), (x0, iA E 200 tx)] := by
                intro zz
                induction zz with
                | zero => intro p x hL82x; exact absurd hL82x (Nat.not_lt_zero _)
                | succ zz ihL82x =>
                  intro p x hL82x hc hw3 hw2
                  refine g_aload_n C dX12_reads_82 rfl 0 rfl ?_
                  refine g_get C i12 0 rfl rfl 2 (by decide) (List.mem_of_getElem? (i := 1) rfl) rfl rfl dX12_reads_83 ?_
                  refine g_aload_n C dX12_reads_86 rfl 0 rfl ?_
                  refine g_get C i12 0 rfl rfl 1 (by decide) (List.mem_of_getElem? (i := 2) rfl) rfl rfl dX12_reads_87 ?_
                  refine g_icmp_geN C 161 dX12_reads_90 (by decide) (by omega) (by omega) (fun cq36 => ?_) (fun cq36 => ?_)
                  · have hR : scn tx (n - w) w (nI 0) = (p, x) := by rw [← hc, show n - p = 0 by omega, scn]
                    refine g_aload_n C dX12_reads_161 rfl 0 rfl ?_
                    refine g_aload_n C dX12_reads_162 rfl 0 rfl ?_
                    refine g_get C i12 0 rfl rfl 5 (by decide) (List.mem_of_getElem? (i := 6) rfl) rfl rfl dX12_reads_163 ?_
                    refine g_bipush C (nI 127) dX12_reads_166 (by decide) ?_
                    refine g_icmp_gt C 198 dX12_reads_168 (by decide) (fun cq37 => ?_) (fun cq37 => ?_)
                    · refine g_iconst C (nI 4) dX12_reads_198 (by decide) ?_
                      refine g_goto C 203 dX12_reads_199 (by decide) ?_
                      refine g_put C i12 tyX12 tyX12_ok nmX12 0 rfl rfl 4 (by decide) (List.mem_of_getElem? (i := 5) rfl) rfl rfl rfl rfl rfl (Nat.le_of_ble_eq_true rfl) dX12_reads_203 (ws' := [(m0, oB 12 [.ref x0, .int (nI n), .int (nI p), .int (nI w), .int (nI 4), .int x, .ref x1, .ref x2, .ref x3, .ref x4, .int (nI und), .ref x5, .ref x6, .int (nI nt), .ref x7, .ref x8, .long tr, .ref x9]), (x0, iA E 200 tx)]) rfl ?_
                      refine g_goto C 292 dX12_reads_206 (by decide) ?_
                      exact g_vret C X dX12_reads_292 (⟨rfl, by first | (rw [rdv_end hS (by omega)]; done) | (rw [rdv_num hS (by omega) hdg, hR, numR]; simp [cq1, cq23, cq24, cq30, cq36, cq37]; done) | (rw [rdv_num hS (by omega) hdg, hR, numR]; simp [cq1, cq23, cq24, cq30, cq36, cq37]; omega) | (rw [rdv_tok hS (by omega) hdg, tokR_1 (by first | exact Or.inl cq37 | exact Or.inr (Or.inl cq37) | exact Or.inr (Or.inr cq37))]; done) | (rw [rdv_tok hS (by omega) hdg, tokR_3 cq24 cq30 cq36 cq37]; done) | (rw [rdv_tok hS (by omega) hdg, tokR_4 cq24 cq30 cq36 cq37]; done) | (exfalso; omega)⟩)
                    · refine g_aload_n C dX12_reads_171 rfl 0 rfl ?_
                      refine g_get C i12 0 rfl rfl 2 (by decide) (List.mem_of_getElem? (i := 1) rfl) rfl rfl dX12_reads_172 ?_
                      refine g_aload_n C dX12_reads_175 rfl 0 rfl ?_
                      refine g_get C i12 0 rfl rfl 3 (by decide) (List.mem_of_getElem? (i := 4) rfl) rfl rfl dX12_reads_176 ?_
                      refine g_isubN C dX12_reads_179 (by omega) ?_
                      refine g_iconst C (nI 1) dX12_reads_180 (by decide) ?_
                      refine g_icmp_leN C 202 dX12_reads_181 (by decide) (by omega) (by omega) (fun cq38 => ?_) (fun cq38 => ?_)
                      · refine g_iconst C (nI 2) dX12_reads_202 (by decide) ?_
                        refine g_put C i12 tyX12 tyX12_ok nmX12 0 rfl rfl 4 (by decide) (List.mem_of_getElem? (i := 5) rfl) rfl rfl rfl rfl rfl (Nat.le_of_ble_eq_true rfl) dX12_reads_203 (ws' := [(m0, oB 12 [.ref x0, .int (nI n), .int (nI p), .int (nI w), .int (nI 2), .int x, .ref x1, .ref x2, .ref x3, .ref x4, .int (nI und), .ref x5, .ref x6, .int (nI nt), .ref x7, .ref x8, .long tr, .ref x9]), (x0, iA E 200 tx)]) rfl ?_
                        refine g_goto C 292 dX12_reads_206 (by decide) ?_
                        exact g_vret C X dX12_reads_292 (⟨rfl, by first | (rw [rdv_end hS (by omega)]; done) | (rw [rdv_num hS (by omega) hdg, hR, numR]; simp [cq1, cq23, cq24, cq30, cq36, cq37, cq38]; done) | (rw [rdv_num hS (by omega) hdg, hR, numR]; simp [cq1, cq23, cq24, cq30, cq36, cq37, cq38]; omega) | (rw [rdv_tok hS (by omega) hdg, tokR_1 (by first | exact Or.inl cq38 | exact Or.inr (Or.inl cq38) | exact Or.inr (Or.inr cq38))]; done) | (rw [rdv_tok hS (by omega) hdg, tokR_3 cq30 cq36 cq37 cq38]; done) | (rw [rdv_tok hS (by omega) hdg, tokR_4 cq30 cq36 cq37 cq38]; done) | (exfalso; omega)⟩)
                      · refine g_aload_n C dX12_reads_184 rfl 0 rfl ?_
                        refine g_get C i12 0 rfl rfl 0 (by decide) (List.mem_of_getElem? (i := 3) rfl) rfl rfl dX12_reads_185 ?_
                        refine g_aload_n C dX12_reads_188 rfl 0 rfl ?_
                        refine g_get C i12 0 rfl rfl 3 (by decide) (List.mem_of_getElem? (i := 4) rfl) rfl rfl dX12_reads_189 ?_
                        refine g_iald C 1 rfl (by omega) (by decide) dX12_reads_192 ?_
                        refine g_bipush C (nI 48) dX12_reads_193 (by decide) ?_
                        refine g_icmp_ne C 202 dX12_reads_195 (by decide) (fun cq39 => ?_) (fun cq39 => ?_)
                        · refine g_iconst C (nI 2) dX12_reads_202 (by decide) ?_
                          refine g_put C i12 tyX12 tyX12_ok nmX12 0 rfl rfl 4 (by decide) (List.mem_of_getElem? (i := 5) rfl) rfl rfl rfl rfl rfl (Nat.le_of_ble_eq_true rfl) dX12_reads_203 (ws' := [(m0, oB 12 [.ref x0, .int (nI n), .int (nI p), .int (nI w), .int (nI 2), .int x, .ref x1, .ref x2, .ref x3, .ref x4, .int (nI und), .ref x5, .ref x6, .int (nI nt), .ref x7, .ref x8, .long tr, .ref x9]), (x0, iA E 200 tx)]) rfl ?_
                          refine g_goto C 292 dX12_reads_206 (by decide) ?_
                          exact g_vret C X dX12_reads_292 (⟨rfl, by first | (rw [rdv_end hS (by omega)]; done) | (rw [rdv_num hS (by omega) hdg, hR, numR]; simp [cq1, cq23, cq24, cq30, cq36, cq37, cq38, cq39]; done) | (rw [rdv_num hS (by omega) hdg, hR, numR]; simp [cq1, cq23, cq24, cq30, cq36, cq37, cq38, cq39]; omega) | (rw [rdv_tok hS (by omega) hdg, tokR_1 (by first | exact Or.inl cq39 | exact Or.inr (Or.inl cq39) | exact Or.inr (Or.inr cq39))]; done) | (rw [rdv_tok hS (by omega) hdg, tokR_3 cq36 cq37 cq38 cq39]; done) | (rw [rdv_tok hS (by omega) hdg, tokR_4 cq36 cq37 cq38 cq39]; done) | (exfalso; omega)⟩)
                        · refine g_iconst C (nI 4) dX12_reads_198 (by decide) ?_
                          refine g_goto C 203 dX12_reads_199 (by decide) ?_
                          refine g_put C i12 tyX12 tyX12_ok nmX12 0 rfl rfl 4 (by decide) (List.mem_of_getElem? (i := 5) rfl) rfl rfl rfl rfl rfl (Nat.le_of_ble_eq_true rfl) dX12_reads_203 (ws' := [(m0, oB 12 [.ref x0, .int (nI n), .int (nI p), .int (nI w), .int (nI 4), .int x, .ref x1, .ref x2, .ref x3, .ref x4, .int (nI und), .ref x5, .ref x6, .int (nI nt), .ref x7, .ref x8, .long tr, .ref x9]), (x0, iA E 200 tx)]) rfl ?_
                          refine g_goto C 292 dX12_reads_206 (by decide) ?_
                          exact g_vret C X dX12_reads_292 (⟨rfl, by first | (rw [rdv_end hS (by omega)]; done) | (rw [rdv_num hS (by omega) hdg, hR, numR]; simp [cq1, cq23, cq24, cq30, cq36, cq37, cq38, cq39]; done) | (rw [rdv_num hS (by omega) hdg, hR, numR]; simp [cq1, cq23, cq24, cq30, cq36, cq37, cq38, cq39]; omega) | (rw [rdv_tok hS (by omega) hdg, tokR_1 (by first | exact Or.inl cq39 | exact Or.inr (Or.inl cq39) | exact Or.inr (Or.inr cq39))]; done) | (rw [rdv_tok hS (by omega) hdg, tokR_3 cq36 cq37 cq38 cq39]; done) | (rw [rdv_tok hS (by omega) hdg, tokR_4 cq36 cq37 cq38 cq39]; done) | (exfalso; omega)⟩)
                  · refine g_aload_n C dX12_reads_93 rfl 0 rfl ?_
                    refine g_get C i12 0 rfl rfl 0 (by decide) (List.mem_of_getElem? (i := 3) rfl) rfl rfl dX12_reads_94 ?_
                    refine g_aload_n C dX12_reads_97 rfl 0 rfl ?_
                    refine g_get C i12 0 rfl rfl 2 (by decide) (List.mem_of_getElem? (i := 1) rfl) rfl rfl dX12_reads_98 ?_
                    refine g_iald C 1 rfl (by omega) (by decide) dX12_reads_101 ?_
                    refine g_callS C (rest := []) (n := 1) (kX12_isFigure l E (tx p) ) gX12_reads_X12_isFigure rfl ⟨rfl, rfl⟩ (by decide) (Nat.le_of_ble_eq_true rfl) rfl (by decide +kernel) rfl dX12_reads_102 [] [0, 1] rfl rfl ?_
                    refine g_is1 (ws2 := [(m0, oB 12 [.ref x0, .int (nI n), .int (nI p), .int (nI w), .int (nI 0), .int x, .ref x1, .ref x2, .ref x3, .ref x4, .int (nI und), .ref x5, .ref x6, .int (nI nt), .ref x7, .ref x8, .long tr, .ref x9]), (x0, iA E 200 tx)]) (st2 := [.int (bI (dig (tx p)))]) [0, 1] rfl rfl rfl ?_
                    refine g_if_eqB C 161 dX12_reads_105 (by decide) (fun cq40 => ?_) (fun cq40 => ?_)
                    · have hR : scn tx (n - w) w (nI 0) = (p, x) := by rw [← hc, show n - p = (n - (p + 1)) + 1 by omega, scn, if_neg cq40]
                      refine g_aload_n C dX12_reads_161 rfl 0 rfl ?_
                      refine g_aload_n C dX12_reads_162 rfl 0 rfl ?_
                      refine g_get C i12 0 rfl rfl 5 (by decide) (List.mem_of_getElem? (i := 6) rfl) rfl rfl dX12_reads_163 ?_
                      refine g_bipush C (nI 127) dX12_reads_166 (by decide) ?_
                      refine g_icmp_gt C 198 dX12_reads_168 (by decide) (fun cq41 => ?_) (fun cq41 => ?_)
                      · refine g_iconst C (nI 4) dX12_reads_198 (by decide) ?_
                        refine g_goto C 203 dX12_reads_199 (by decide) ?_
                        refine g_put C i12 tyX12 tyX12_ok nmX12 0 rfl rfl 4 (by decide) (List.mem_of_getElem? (i := 5) rfl) rfl rfl rfl rfl rfl (Nat.le_of_ble_eq_true rfl) dX12_reads_203 (ws' := [(m0, oB 12 [.ref x0, .int (nI n), .int (nI p), .int (nI w), .int (nI 4), .int x, .ref x1, .ref x2, .ref x3, .ref x4, .int (nI und), .ref x5, .ref x6, .int (nI nt), .ref x7, .ref x8, .long tr, .ref x9]), (x0, iA E 200 tx)]) rfl ?_
                        refine g_goto C 292 dX12_reads_206 (by decide) ?_
                        exact g_vret C X dX12_reads_292 (⟨rfl, by first | (rw [rdv_end hS (by omega)]; done) | (rw [rdv_num hS (by omega) hdg, hR, numR]; simp [cq1, cq23, cq24, cq30, cq36, cq40, cq41]; done) | (rw [rdv_num hS (by omega) hdg, hR, numR]; simp [cq1, cq23, cq24, cq30, cq36, cq40, cq41]; omega) | (rw [rdv_tok hS (by omega) hdg, tokR_1 (by first | exact Or.inl cq41 | exact Or.inr (Or.inl cq41) | exact Or.inr (Or.inr cq41))]; done) | (rw [rdv_tok hS (by omega) hdg, tokR_3 cq30 cq36 cq40 cq41]; done) | (rw [rdv_tok hS (by omega) hdg, tokR_4 cq30 cq36 cq40 cq41]; done) | (exfalso; omega)⟩)
                      · refine g_aload_n C dX12_reads_171 rfl 0 rfl ?_
                        refine g_get C i12 0 rfl rfl 2 (by decide) (List.mem_of_getElem? (i := 1) rfl) rfl rfl dX12_reads_172 ?_
                        refine g_aload_n C dX12_reads_175 rfl 0 rfl ?_
                        refine g_get C i12 0 rfl rfl 3 (by decide) (List.mem_of_getElem? (i := 4) rfl) rfl rfl dX12_reads_176 ?_
                        refine g_isubN C dX12_reads_179 (by omega) ?_
                        refine g_iconst C (nI 1) dX12_reads_180 (by decide) ?_
                        refine g_icmp_leN C 202 dX12_reads_181 (by decide) (by omega) (by omega) (fun cq42 => ?_) (fun cq42 => ?_)
                        · refine g_iconst C (nI 2) dX12_reads_202 (by decide) ?_
                          refine g_put C i12 tyX12 tyX12_ok nmX12 0 rfl rfl 4 (by decide) (List.mem_of_getElem? (i := 5) rfl) rfl rfl rfl rfl rfl (Nat.le_of_ble_eq_true rfl) dX12_reads_203 (ws' := [(m0, oB 12 [.ref x0, .int (nI n), .int (nI p), .int (nI w), .int (nI 2), .int x, .ref x1, .ref x2, .ref x3, .ref x4, .int (nI und), .ref x5, .ref x6, .int (nI nt), .ref x7, .ref x8, .long tr, .ref x9]), (x0, iA E 200 tx)]) rfl ?_
                          refine g_goto C 292 dX12_reads_206 (by decide) ?_
                          exact g_vret C X dX12_reads_292 (⟨rfl, by first | (rw [rdv_end hS (by omega)]; done) | (rw [rdv_num hS (by omega) hdg, hR, numR]; simp [cq1, cq23, cq24, cq30, cq36, cq40, cq41, cq42]; done) | (rw [rdv_num hS (by omega) hdg, hR, numR]; simp [cq1, cq23, cq24, cq30, cq36, cq40, cq41, cq42]; omega) | (rw [rdv_tok hS (by omega) hdg, tokR_1 (by first | exact Or.inl cq42 | exact Or.inr (Or.inl cq42) | exact Or.inr (Or.inr cq42))]; done) | (rw [rdv_tok hS (by omega) hdg, tokR_3 cq36 cq40 cq41 cq42]; done) | (rw [rdv_tok hS (by omega) hdg, tokR_4 cq36 cq40 cq41 cq42]; done) | (exfalso; omega)⟩)
                        · refine g_aload_n C dX12_reads_184 rfl 0 rfl ?_
                          refine g_get C i12 0 rfl rfl 0 (by decide) (List.mem_of_getElem? (i := 3) rfl) rfl rfl dX12_reads_185 ?_
                          refine g_aload_n C dX12_reads_188 rfl 0 rfl ?_
                          refine g_get C i12 0 rfl rfl 3 (by decide) (List.mem_of_getElem? (i := 4) rfl) rfl rfl dX12_reads_189 ?_
                          refine g_iald C 1 rfl (by omega) (by decide) dX12_reads_192 ?_
                          refine g_bipush C (nI 48) dX12_reads_193 (by decide) ?_
                          refine g_icmp_ne C 202 dX12_reads_195 (by decide) (fun cq43 => ?_) (fun cq43 => ?_)
                          · refine g_iconst C (nI 2) dX12_reads_202 (by decide) ?_
                            refine g_put C i12 tyX12 tyX12_ok nmX12 0 rfl rfl 4 (by decide) (List.mem_of_getElem? (i := 5) rfl) rfl rfl rfl rfl rfl (Nat.le_of_ble_eq_true rfl) dX12_reads_203 (ws' := [(m0, oB 12 [.ref x0, .int (nI n), .int (nI p), .int (nI w), .int (nI 2), .int x, .ref x1, .ref x2, .ref x3, .ref x4, .int (nI und), .ref x5, .ref x6, .int (nI nt), .ref x7, .ref x8, .long tr, .ref x9]), (x0, iA E 200 tx)]) rfl ?_
                            refine g_goto C 292 dX12_reads_206 (by decide) ?_
                            exact g_vret C X dX12_reads_292 (⟨rfl, by first | (rw [rdv_end hS (by omega)]; done) | (rw [rdv_num hS (by omega) hdg, hR, numR]; simp [cq1, cq23, cq24, cq30, cq36, cq40, cq41, cq42, cq43]; done) | (rw [rdv_num hS (by omega) hdg, hR, numR]; simp [cq1, cq23, cq24, cq30, cq36, cq40, cq41, cq42, cq43]; omega) | (rw [rdv_tok hS (by omega) hdg, tokR_1 (by first | exact Or.inl cq43 | exact Or.inr (Or.inl cq43) | exact Or.inr (Or.inr cq43))]; done) | (rw [rdv_tok hS (by omega) hdg, tokR_3 cq40 cq41 cq42 cq43]; done) | (rw [rdv_tok hS (by omega) hdg, tokR_4 cq40 cq41 cq42 cq43]; done) | (exfalso; omega)⟩)
                          · refine g_iconst C (nI 4) dX12_reads_198 (by decide) ?_
                            refine g_goto C 203 dX12_reads_199 (by decide) ?_
                            refine g_put C i12 tyX12 tyX12_ok nmX12 0 rfl rfl 4 (by decide) (List.mem_of_getElem? (i := 5) rfl) rfl rfl rfl rfl rfl (Nat.le_of_ble_eq_true rfl) dX12_reads_203 (ws' := [(m0, oB 12 [.ref x0, .int (nI n), .int (nI p), .int (nI w), .int (nI 4), .int x, .ref x1, .ref x2, .ref x3, .ref x4, .int (nI und), .ref x5, .ref x6, .int (nI nt), .ref x7, .ref x8, .long tr, .ref x9]), (x0, iA E 200 tx)]) rfl ?_
                            refine g_goto C 292 dX12_reads_206 (by decide) ?_
                            exact g_vret C X dX12_reads_292 (⟨rfl, by first | (rw [rdv_end hS (by omega)]; done) | (rw [rdv_num hS (by omega) hdg, hR, numR]; simp [cq1, cq23, cq24, cq30, cq36, cq40, cq41, cq42, cq43]; done) | (rw [rdv_num hS (by omega) hdg, hR, numR]; simp [cq1, cq23, cq24, cq30, cq36, cq40, cq41, cq42, cq43]; omega) | (rw [rdv_tok hS (by omega) hdg, tokR_1 (by first | exact Or.inl cq43 | exact Or.inr (Or.inl cq43) | exact Or.inr (Or.inr cq43))]; done) | (rw [rdv_tok hS (by omega) hdg, tokR_3 cq40 cq41 cq42 cq43]; done) | (rw [rdv_tok hS (by omega) hdg, tokR_4 cq40 cq41 cq42 cq43]; done) | (exfalso; omega)⟩)
                    · have hd9 : dig (tx p) := cq40
                      refine g_aload_n C dX12_reads_108 rfl 0 rfl ?_
                      refine g_aload_n C dX12_reads_109 rfl 0 rfl ?_
                      refine g_get C i12 0 rfl rfl 5 (by decide) (List.mem_of_getElem? (i := 6) rfl) rfl rfl dX12_reads_110 ?_
                      refine g_bipush C (nI 127) dX12_reads_113 (by decide) ?_
                      refine g_icmp_le C 125 dX12_reads_115 (by decide) (fun cq44 => ?_) (fun cq44 => ?_)
                      · refine g_bipush C (nI 10) dX12_reads_125 (by decide) ?_
                        refine g_aload_n C dX12_reads_127 rfl 0 rfl ?_
                        refine g_get C i12 0 rfl rfl 5 (by decide) (List.mem_of_getElem? (i := 6) rfl) rfl rfl dX12_reads_128 ?_
                        refine g_imul C dX12_reads_131 ?_
                        refine g_aload_n C dX12_reads_132 rfl 0 rfl ?_
                        refine g_get C i12 0 rfl rfl 0 (by decide) (List.mem_of_getElem? (i := 3) rfl) rfl rfl dX12_reads_133 ?_
                        refine g_aload_n C dX12_reads_136 rfl 0 rfl ?_
                        refine g_get C i12 0 rfl rfl 2 (by decide) (List.mem_of_getElem? (i := 1) rfl) rfl rfl dX12_reads_137 ?_
                        refine g_iald C 1 rfl (by omega) (by decide) dX12_reads_140 ?_
                        refine g_iadd C dX12_reads_141 ?_
                        refine g_bipush C (nI 48) dX12_reads_142 (by decide) ?_
                        refine g_isub C dX12_reads_144 ?_
                        refine g_put C i12 tyX12 tyX12_ok nmX12 0 rfl rfl 5 (by decide) (List.mem_of_getElem? (i := 6) rfl) rfl rfl rfl rfl rfl (Nat.le_of_ble_eq_true rfl) dX12_reads_145 (ws' := [(m0, oB 12 [.ref x0, .int (nI n), .int (nI p), .int (nI w), .int (nI 0), .int ((((nI 10) * x) + (tx p)) - (nI 48)), .ref x1, .ref x2, .ref x3, .ref x4, .int (nI und), .ref x5, .ref x6, .int (nI nt), .ref x7, .ref x8, .long tr, .ref x9]), (x0, iA E 200 tx)]) rfl ?_
                        refine g_aload_n C dX12_reads_148 rfl 0 rfl ?_
                        refine g_dup C dX12_reads_149 rfl ?_
                        refine g_get C i12 0 rfl rfl 2 (by decide) (List.mem_of_getElem? (i := 1) rfl) rfl rfl dX12_reads_150 ?_
                        refine g_iconst C (nI 1) dX12_reads_153 (by decide) ?_
                        refine g_iaddN C dX12_reads_154 ?_
                        refine g_put C i12 tyX12 tyX12_ok nmX12 0 rfl rfl 2 (by decide) (List.mem_of_getElem? (i := 1) rfl) rfl rfl rfl rfl rfl (Nat.le_of_ble_eq_true rfl) dX12_reads_155 (ws' := [(m0, oB 12 [.ref x0, .int (nI n), .int (nI (p + 1)), .int (nI w), .int (nI 0), .int ((((nI 10) * x) + (tx p)) - (nI 48)), .ref x1, .ref x2, .ref x3, .ref x4, .int (nI und), .ref x5, .ref x6, .int (nI nt), .ref x7, .ref x8, .long tr, .ref x9]), (x0, iA E 200 tx)]) rfl ?_
                        refine g_goto C 82 dX12_reads_158 (by decide) ?_
                        exact ihL82x (p + 1) ((((nI 10) * x) + (tx p)) - (nI 48)) (by omega) (by rw [← hc, show n - p = (n - (p + 1)) + 1 by omega, scn, if_pos hd9, nst]; first | (rw [if_neg (Int32.not_lt.mpr cq44), Int32.mul_comm]; done) | (rw [if_pos (Int32.not_le.mp cq44)]; done)) (by first | omega | (simp [hs, hw, cq1, cq23, hS, cq24, cq30, hdg, hc, hw3, hw2, cq36, cq40, hd9, cq44]; done)) (by first | omega | (simp [hs, hw, cq1, cq23, hS, cq24, cq30, hdg, hc, hw3, hw2, cq36, cq40, hd9, cq44]; done))
                      · refine g_aload_n C dX12_reads_118 rfl 0 rfl ?_
                        refine g_get C i12 0 rfl rfl 5 (by decide) (List.mem_of_getElem? (i := 6) rfl) rfl rfl dX12_reads_119 ?_
                        refine g_goto C 145 dX12_reads_122 (by decide) ?_
                        refine g_put C i12 tyX12 tyX12_ok nmX12 0 rfl rfl 5 (by decide) (List.mem_of_getElem? (i := 6) rfl) rfl rfl rfl rfl rfl (Nat.le_of_ble_eq_true rfl) dX12_reads_145 (ws' := [(m0, oB 12 [.ref x0, .int (nI n), .int (nI p), .int (nI w), .int (nI 0), .int x, .ref x1, .ref x2, .ref x3, .ref x4, .int (nI und), .ref x5, .ref x6, .int (nI nt), .ref x7, .ref x8, .long tr, .ref x9]), (x0, iA E 200 tx)]) rfl ?_
                        refine g_aload_n C dX12_reads_148 rfl 0 rfl ?_
                        refine g_dup C dX12_reads_149 rfl ?_
                        refine g_get C i12 0 rfl rfl 2 (by decide) (List.mem_of_getElem? (i := 1) rfl) rfl rfl dX12_reads_150 ?_
                        refine g_iconst C (nI 1) dX12_reads_153 (by decide) ?_
                        refine g_iaddN C dX12_reads_154 ?_
                        refine g_put C i12 tyX12 tyX12_ok nmX12 0 rfl rfl 2 (by decide) (List.mem_of_getElem? (i := 1) rfl) rfl rfl rfl rfl rfl (Nat.le_of_ble_eq_true rfl) dX12_reads_155 (ws' := [(m0, oB 12 [.ref x0, .int (nI n), .int (nI (p + 1)), .int (nI w), .int (nI 0), .int x, .ref x1, .ref x2, .ref x3, .ref x4, .int (nI und), .ref x5, .ref x6, .int (nI nt), .ref x7, .ref x8, .long tr, .ref x9]), (x0, iA E 200 tx)]) rfl ?_
                        refine g_goto C 82 dX12_reads_158 (by decide) ?_
                        exact ihL82x (p + 1) x (by omega) (by rw [← hc, show n - p = (n - (p + 1)) + 1 by omega, scn, if_pos hd9, nst]; first | (rw [if_neg (Int32.not_lt.mpr cq44), Int32.mul_comm]; done) | (rw [if_pos (Int32.not_le.mp cq44)]; done)) (by first | omega | (simp [hs, hw, cq1, cq23, hS, cq24, cq30, hdg, hc, hw3, hw2, cq36, cq40, hd9, cq44]; done)) (by first | omega | (simp [hs, hw, cq1, cq23, hS, cq24, cq30, hdg, hc, hw3, hw2, cq36, cq40, hd9, cq44]; done))
              exact L82x ((n - w) + 1) w (nI 0) (Nat.lt_succ_self _) (rfl) (Nat.le_refl w) (by omega)
        · refine g_aload_n C dX12_reads_25 rfl 0 rfl ?_
          refine g_dup C dX12_reads_26 rfl ?_
          refine g_get C i12 0 rfl rfl 2 (by decide) (List.mem_of_getElem? (i := 1) rfl) rfl rfl dX12_reads_27 ?_
          refine g_iconst C (nI 1) dX12_reads_30 (by decide) ?_
          refine g_iaddN C dX12_reads_31 ?_
          refine g_put C i12 tyX12 tyX12_ok nmX12 0 rfl rfl 2 (by decide) (List.mem_of_getElem? (i := 1) rfl) rfl rfl rfl rfl rfl (Nat.le_of_ble_eq_true rfl) dX12_reads_32 (ws' := [(m0, oB 12 [.ref x0, .int (nI n), .int (nI (w + 1)), .int (nI Q.2.2.1), .int Q.2.1, .int Q.2.2.2, .ref x1, .ref x2, .ref x3, .ref x4, .int (nI und), .ref x5, .ref x6, .int (nI nt), .ref x7, .ref x8, .long tr, .ref x9]), (x0, iA E 200 tx)]) rfl ?_
          refine g_goto C 0 dX12_reads_35 (by decide) ?_
          exact ihL0 (w + 1) (by omega) (by rw [← hs, show n - w = (n - (w + 1)) + 1 by omega, skp, if_pos cq23]) (by first | omega | (simp [hs, hw, cq1, cq23]; done))
  exact L0 ((n - Q.1) + 1) Q.1 (Nat.lt_succ_self _) (rfl) (by omega)

abbrev nOk2 (R : RS) (lo hi : Nat) : Prop := R.2.1 = nI 2 ∧ ¬ R.2.2.2 < nI lo ∧ ¬ nI hi < R.2.2.2

set_option maxHeartbeats 4000000 in
set_option maxRecDepth 100000 in
theorem kX12_number (l : Launch) (E : EX) (m0 x0 x1 x2 x3 x4 x5 x6 x7 x8 x9 n und nt : Nat) (tr : Int64) (Q : RS) (tx : Nat → Int32) (lo hi : Nat) (hn : n ≤ 200) (hp : Q.1 ≤ n) : M l E yX12_number wsX12_number { frames := 3, cells := 0, slots := 0, locals := 65 } 0 0 [.ref m0, .int (nI lo), .int (nI hi)] [(m0, oB 12 [.ref x0, .int (nI n), .int (nI Q.1), .int (nI Q.2.2.1), .int Q.2.1, .int Q.2.2.2, .ref x1, .ref x2, .ref x3, .ref x4, .int (nI und), .ref x5, .ref x6, .int (nI nt), .ref x7, .ref x8, .long tr, .ref x9]), (x0, iA E 200 tx)] (is1 (some (.int (bI (nOk2 (rdv tx n Q) lo hi)))) [(m0, oB 12 [.ref x0, .int (nI n), .int (nI ((rdv tx n Q).1)), .int (nI ((rdv tx n Q).2.2.1)), .int ((rdv tx n Q).2.1), .int ((rdv tx n Q).2.2.2), .ref x1, .ref x2, .ref x3, .ref x4, .int (nI und), .ref x5, .ref x6, .int (nI nt), .ref x7, .ref x8, .long tr, .ref x9]), (x0, iA E 200 tx)]) := by
  refine M.ofG (cc := cX12_number) (maxL := 3) (ret := (some .boolean)) (lv := [(0, .ref m0), (1, .int (nI lo)), (2, .int (nI hi))]) (own := RX12) (by decide) rfl rfl (Nat.le_of_ble_eq_true rfl) rfl ?_
  intro K C X _
  have i12 : ∀ w ∈ wsX120, w ∈ wsX12_number := by decide +kernel
  refine g_aload_n C dX12_number_0 rfl 0 rfl ?_
  refine g_callV C (rest := []) (n := 0) (kX12_reads l E m0 x0 x1 x2 x3 x4 x5 x6 x7 x8 x9 n und nt tr Q tx (by omega) (by omega)) gX12_number_X12_reads rfl ⟨rfl, rfl⟩ (by decide) (Nat.le_of_ble_eq_true rfl) rfl (by decide +kernel) rfl dX12_number_1 0 rfl rfl [0, 1] [] rfl rfl ?_
  refine g_is1 (ws2 := [(m0, oB 12 [.ref x0, .int (nI n), .int (nI ((rdv tx n Q).1)), .int (nI ((rdv tx n Q).2.2.1)), .int ((rdv tx n Q).2.1), .int ((rdv tx n Q).2.2.2), .ref x1, .ref x2, .ref x3, .ref x4, .int (nI und), .ref x5, .ref x6, .int (nI nt), .ref x7, .ref x8, .long tr, .ref x9]), (x0, iA E 200 tx)]) (st2 := []) [0, 1] rfl rfl rfl ?_
  refine g_aload_n C dX12_number_4 rfl 0 rfl ?_
  refine g_get C i12 0 rfl rfl 4 (by decide) (List.mem_of_getElem? (i := 1) rfl) rfl rfl dX12_number_5 ?_
  refine g_iconst C (nI 2) dX12_number_8 (by decide) ?_
  refine g_icmp_ne C 31 dX12_number_9 (by decide) (fun cq1 => ?_) (fun cq1 => ?_)
  · refine g_iconst C (nI 0) dX12_number_31 (by decide) ?_
    exact g_zret C X rfl dX12_number_32 (⟨congrArg (fun z => some (Value.int z)) (bI_f (by first | exact fun z => cq1 z.1 | exact fun z => trivial ((inL_num _ _ _).mpr z.2))).symm, rfl⟩)
  · refine g_aload_n C dX12_number_12 rfl 0 rfl ?_
    refine g_get C i12 0 rfl rfl 5 (by decide) (List.mem_of_getElem? (i := 2) rfl) rfl rfl dX12_number_13 ?_
    refine g_i2l C dX12_number_16 ?_
    refine g_iload_n C dX12_number_17 rfl 1 rfl ?_
    refine g_i2l C dX12_number_18 ?_
    refine g_iload_n C dX12_number_19 rfl 2 rfl ?_
    refine g_i2l C dX12_number_20 ?_
    refine g_callS C (rest := []) (n := 3) (kX12_in l E (((rdv tx n Q).2.2.2).toInt64) ((nI lo).toInt64) ((nI hi).toInt64) ) gX12_number_X12_in rfl ⟨rfl, rfl⟩ (by decide) (Nat.le_of_ble_eq_true rfl) rfl (by decide +kernel) rfl dX12_number_21 [] [0, 1] rfl rfl ?_
    refine g_is1 (ws2 := [(m0, oB 12 [.ref x0, .int (nI n), .int (nI ((rdv tx n Q).1)), .int (nI ((rdv tx n Q).2.2.1)), .int ((rdv tx n Q).2.1), .int ((rdv tx n Q).2.2.2), .ref x1, .ref x2, .ref x3, .ref x4, .int (nI und), .ref x5, .ref x6, .int (nI nt), .ref x7, .ref x8, .long tr, .ref x9]), (x0, iA E 200 tx)]) (st2 := [.int (bI (inL (((rdv tx n Q).2.2.2).toInt64) ((nI lo).toInt64) ((nI hi).toInt64)))]) [0, 1] rfl rfl rfl ?_
    refine g_if_eqB C 31 dX12_number_24 (by decide) (fun cq2 => ?_) (fun cq2 => ?_)
    · refine g_iconst C (nI 0) dX12_number_31 (by decide) ?_
      exact g_zret C X rfl dX12_number_32 (⟨congrArg (fun z => some (Value.int z)) (bI_f (by first | exact fun z => cq1 z.1 | exact fun z => cq2 ((inL_num _ _ _).mpr z.2))).symm, rfl⟩)
    · refine g_iconst C (nI 1) dX12_number_27 (by decide) ?_
      refine g_goto C 32 dX12_number_28 (by decide) ?_
      exact g_zret C X rfl dX12_number_32 (⟨congrArg (fun z => some (Value.int z)) (bI_t (⟨cq1, (inL_num _ _ _).mp cq2⟩)).symm, rfl⟩)

set_option maxHeartbeats 4000000 in
set_option maxRecDepth 100000 in
theorem kX12_itemEnds (l : Launch) (E : EX) (m0 x0 x1 x2 x3 x4 x5 x6 x7 x8 x9 n und nt : Nat) (tr : Int64) (Q : RS) (tx : Nat → Int32) (hn : n ≤ 200) (hp : Q.1 ≤ n) : M l E yX12_itemEnds wsX12_itemEnds { frames := 3, cells := 0, slots := 0, locals := 65 } 0 0 [.ref m0] [(m0, oB 12 [.ref x0, .int (nI n), .int (nI Q.1), .int (nI Q.2.2.1), .int Q.2.1, .int Q.2.2.2, .ref x1, .ref x2, .ref x3, .ref x4, .int (nI und), .ref x5, .ref x6, .int (nI nt), .ref x7, .ref x8, .long tr, .ref x9]), (x0, iA E 200 tx)] (is1 (some (.int (bI ((rdv tx n Q).2.1 = nI 3)))) [(m0, oB 12 [.ref x0, .int (nI n), .int (nI ((rdv tx n Q).1)), .int (nI ((rdv tx n Q).2.2.1)), .int ((rdv tx n Q).2.1), .int ((rdv tx n Q).2.2.2), .ref x1, .ref x2, .ref x3, .ref x4, .int (nI und), .ref x5, .ref x6, .int (nI nt), .ref x7, .ref x8, .long tr, .ref x9]), (x0, iA E 200 tx)]) := by
  refine M.ofG (cc := cX12_itemEnds) (maxL := 1) (ret := (some .boolean)) (lv := [(0, .ref m0)]) (own := RX12) (by decide) rfl rfl (Nat.le_of_ble_eq_true rfl) rfl ?_
  intro K C X _
  have i12 : ∀ w ∈ wsX120, w ∈ wsX12_itemEnds := by decide +kernel
  refine g_aload_n C dX12_itemEnds_0 rfl 0 rfl ?_
  refine g_callV C (rest := []) (n := 0) (kX12_reads l E m0 x0 x1 x2 x3 x4 x5 x6 x7 x8 x9 n und nt tr Q tx (by omega) (by omega)) gX12_itemEnds_X12_reads rfl ⟨rfl, rfl⟩ (by decide) (Nat.le_of_ble_eq_true rfl) rfl (by decide +kernel) rfl dX12_itemEnds_1 0 rfl rfl [0, 1] [] rfl rfl ?_
  refine g_is1 (ws2 := [(m0, oB 12 [.ref x0, .int (nI n), .int (nI ((rdv tx n Q).1)), .int (nI ((rdv tx n Q).2.2.1)), .int ((rdv tx n Q).2.1), .int ((rdv tx n Q).2.2.2), .ref x1, .ref x2, .ref x3, .ref x4, .int (nI und), .ref x5, .ref x6, .int (nI nt), .ref x7, .ref x8, .long tr, .ref x9]), (x0, iA E 200 tx)]) (st2 := []) [0, 1] rfl rfl rfl ?_
  refine g_aload_n C dX12_itemEnds_4 rfl 0 rfl ?_
  refine g_get C i12 0 rfl rfl 4 (by decide) (List.mem_of_getElem? (i := 1) rfl) rfl rfl dX12_itemEnds_5 ?_
  refine g_iconst C (nI 3) dX12_itemEnds_8 (by decide) ?_
  refine g_icmp_ne C 16 dX12_itemEnds_9 (by decide) (fun cq1 => ?_) (fun cq1 => ?_)
  · refine g_iconst C (nI 0) dX12_itemEnds_16 (by decide) ?_
    exact g_zret C X rfl dX12_itemEnds_17 (⟨congrArg (fun z => some (Value.int z)) (bI_f (cq1)).symm, rfl⟩)
  · refine g_iconst C (nI 1) dX12_itemEnds_12 (by decide) ?_
    refine g_goto C 17 dX12_itemEnds_13 (by decide) ?_
    exact g_zret C X rfl dX12_itemEnds_17 (⟨congrArg (fun z => some (Value.int z)) (bI_t (cq1)).symm, rfl⟩)
