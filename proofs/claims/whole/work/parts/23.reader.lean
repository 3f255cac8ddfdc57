/-! Reader: tokens and items. RS: place, token, start, number; TS: people, pillows, knows, talks, clashing -/
abbrev RS : Type := Nat × Int32 × Nat × Int32
abbrev TS : Type := Nat × Nat × (Nat → Int32) × (Nat → Int32) × (Nat → Int32)
abbrev dig (c : Int32) : Prop := ¬ c < nI 48 ∧ ¬ nI 57 < c
def nst (x l : Int32) : Int32 := if nI 127 < x then x else x * nI 10 + l - nI 48
def skp (tx : Nat → Int32) : Nat → Nat → Nat
  | 0, p => p
  | z + 1, p => if tx p = nI 32 then skp tx z (p + 1) else p
def scn (tx : Nat → Int32) : Nat → Nat → Int32 → Nat × Int32
  | 0, p, x => (p, x)
  | z + 1, p, x => if dig (tx p) then scn tx z (p + 1) (nst x (tx p)) else (p, x)
def tokOf (c : Int32) : Int32 := if c = nI 113 ∨ c = nI 112 ∨ c = nI 120 ∨ c = nI 59 then c else nI 2
def numT (tx : Nat → Int32) (p : Nat) (r : Nat × Int32) : Int32 := if (1 < r.1 - p ∧ tx p = nI 48) ∨ ¬ r.2 ≤ nI 127 then nI 2 else nI 1
def adv (tx : Nat → Int32) (n : Nat) (R : RS) : RS :=
  if skp tx (n - R.1) R.1 < n then
    (if dig (tx (skp tx (n - R.1) R.1)) then ((scn tx (n - skp tx (n - R.1) R.1) (skp tx (n - R.1) R.1) (nI 0)).1, numT tx (skp tx (n - R.1) R.1) (scn tx (n - skp tx (n - R.1) R.1) (skp tx (n - R.1) R.1) (nI 0)), skp tx (n - R.1) R.1, (scn tx (n - skp tx (n - R.1) R.1) (skp tx (n - R.1) R.1) (nI 0)).2)
     else (skp tx (n - R.1) R.1 + 1, tokOf (tx (skp tx (n - R.1) R.1)), skp tx (n - R.1) R.1, R.2.2.2))
  else (skp tx (n - R.1) R.1, nI 0, skp tx (n - R.1) R.1, R.2.2.2)
theorem adv_end {tx : Nat → Int32} {n w : Nat} {R : RS} (h : skp tx (n - R.1) R.1 = w) (hw : ¬ w < n) : adv tx n R = (w, nI 0, w, R.2.2.2) := by
  unfold adv; rw [h, if_neg hw]
theorem adv_num {tx : Nat → Int32} {n w : Nat} {R : RS} (h : skp tx (n - R.1) R.1 = w) (hw : w < n) (hd : dig (tx w)) : adv tx n R = ((scn tx (n - w) w (nI 0)).1, numT tx w (scn tx (n - w) w (nI 0)), w, (scn tx (n - w) w (nI 0)).2) := by
  unfold adv; rw [h, if_pos hw, if_pos hd]
theorem adv_tok {tx : Nat → Int32} {n w : Nat} {R : RS} (h : skp tx (n - R.1) R.1 = w) (hw : w < n) (hd : ¬ dig (tx w)) : adv tx n R = (w + 1, tokOf (tx w), w, R.2.2.2) := by
  unfold adv; rw [h, if_pos hw, if_neg hd]
theorem skp_le (tx : Nat → Int32) : ∀ (z p : Nat), p ≤ skp tx z p ∧ skp tx z p ≤ p + z
  | 0, p => ⟨Nat.le_refl p, Nat.le_refl p⟩
  | z + 1, p => by
    rw [skp]
    by_cases h : tx p = nI 32
    · rw [if_pos h]; have := skp_le tx z (p + 1); omega
    · rw [if_neg h]; omega
theorem scn_le (tx : Nat → Int32) : ∀ (z p : Nat) (x : Int32), p ≤ (scn tx z p x).1 ∧ (scn tx z p x).1 ≤ p + z
  | 0, p, x => ⟨Nat.le_refl p, Nat.le_refl p⟩
  | z + 1, p, x => by
    rw [scn]
    by_cases h : dig (tx p)
    · rw [if_pos h]; have := scn_le tx z (p + 1) (nst x (tx p)); omega
    · rw [if_neg h]; exact ⟨Nat.le_refl p, by show p ≤ p + (z + 1); omega⟩
theorem adv_le {tx : Nat → Int32} {n : Nat} {R : RS} (h : R.1 ≤ n) : (adv tx n R).1 ≤ n ∧ R.1 ≤ (adv tx n R).1 ∧ (adv tx n R).2.2.1 ≤ (adv tx n R).1 := by
  have h1 := skp_le tx (n - R.1) R.1
  obtain ⟨w, hw⟩ : ∃ w, skp tx (n - R.1) R.1 = w := ⟨_, rfl⟩
  rw [hw] at h1
  by_cases h2 : w < n
  · by_cases h3 : dig (tx w)
    · rw [adv_num hw h2 h3]; have := scn_le tx (n - w) w (nI 0); show _ ≤ n ∧ _ ≤ _ ∧ _ ≤ _; dsimp only; omega
    · rw [adv_tok hw h2 h3]; dsimp only; omega
  · rw [adv_end hw h2]; dsimp only; omega
abbrev nOk (R : RS) (lo hi : Nat) : Prop := R.2.1 = nI 1 ∧ ¬ R.2.2.2 < nI lo ∧ ¬ nI hi < R.2.2.2
def rP (tx : Nat → Int32) (n : Nat) (R : RS) (T : TS) : Int32 × RS × TS :=
  if nOk (adv tx n R) 1 6 then (bI ((adv tx n (adv tx n R)).2.1 = nI 59), adv tx n (adv tx n R), (T.1, (adv tx n R).2.2.2.toNatClampNeg, T.2.2)) else (nI 0, adv tx n R, T)
def rQ (tx : Nat → Int32) (n : Nat) (R : RS) (T : TS) : Int32 × RS × TS :=
  if nOk (adv tx n R) 0 127 then
    (if nOk (adv tx n (adv tx n R)) 0 10 then (bI ((adv tx n (adv tx n (adv tx n R))).2.1 = nI 59), adv tx n (adv tx n (adv tx n R)), (T.1 + 1, T.2.1, upd T.2.2.1 T.1 (adv tx n R).2.2.2, upd T.2.2.2.1 T.1 (adv tx n (adv tx n R)).2.2.2, T.2.2.2.2))
     else (nI 0, adv tx n (adv tx n R), T))
  else (nI 0, adv tx n R, T)
def rC (tx : Nat → Int32) (n : Nat) (R : RS) (T : TS) : Int32 × RS × TS :=
  if nOk (adv tx n R) 0 6 then
    (if nOk (adv tx n (adv tx n R)) 0 6 ∧ ¬ (adv tx n (adv tx n R)).2.2.2 = (adv tx n R).2.2.2 then (bI ((adv tx n (adv tx n (adv tx n R))).2.1 = nI 59), adv tx n (adv tx n (adv tx n R)), (T.1, T.2.1, T.2.2.1, T.2.2.2.1, clA T.2.2.2.2 (adv tx n R).2.2.2.toNatClampNeg (adv tx n (adv tx n R)).2.2.2.toNatClampNeg))
     else (nI 0, adv tx n (adv tx n R), T))
  else (nI 0, adv tx n R, T)
def rI (tx : Nat → Int32) (n b : Nat) (R : RS) (T : TS) : Int32 × RS × TS :=
  if R.2.1 = nI 112 then (if T.1 < 6 then rQ tx n R T else (nI 0, R, T)) else if R.2.1 = nI 113 then (if b = 0 then (nI 0, R, T) else rP tx n R T) else if R.2.1 = nI 120 then rC tx n R T else (nI 0, R, T)
def rdL (tx : Nat → Int32) (n : Nat) : Nat → Nat → RS → TS → Int32 × RS × TS
  | 0, i, R, T => (nI i, R, T)
  | z + 1, i, R, T => if R.2.1 = 0 then (nI i, R, T) else
      if (rI tx n (if i = 0 then 1 else 0) R T).1 = 0 then ((-10) - nI (rI tx n (if i = 0 then 1 else 0) R T).2.1.2.2.1, (rI tx n (if i = 0 then 1 else 0) R T).2)
      else rdL tx n z (i + 1) (adv tx n (rI tx n (if i = 0 then 1 else 0) R T).2.1) (rI tx n (if i = 0 then 1 else 0) R T).2.2
theorem rP_y {tx : Nat → Int32} {n : Nat} {R : RS} {T : TS} (h : nOk (adv tx n R) 1 6) : rP tx n R T = (bI ((adv tx n (adv tx n R)).2.1 = nI 59), adv tx n (adv tx n R), (T.1, (adv tx n R).2.2.2.toNatClampNeg, T.2.2)) := if_pos h
theorem rP_n {tx : Nat → Int32} {n : Nat} {R : RS} {T : TS} (h : ¬ nOk (adv tx n R) 1 6) : rP tx n R T = (nI 0, adv tx n R, T) := if_neg h
theorem rQ_y {tx : Nat → Int32} {n : Nat} {R : RS} {T : TS} (h : nOk (adv tx n R) 0 127) (h2 : nOk (adv tx n (adv tx n R)) 0 10) : rQ tx n R T = (bI ((adv tx n (adv tx n (adv tx n R))).2.1 = nI 59), adv tx n (adv tx n (adv tx n R)), (T.1 + 1, T.2.1, upd T.2.2.1 T.1 (adv tx n R).2.2.2, upd T.2.2.2.1 T.1 (adv tx n (adv tx n R)).2.2.2, T.2.2.2.2)) := by unfold rQ; rw [if_pos h, if_pos h2]
theorem rQ_n2 {tx : Nat → Int32} {n : Nat} {R : RS} {T : TS} (h : nOk (adv tx n R) 0 127) (h2 : ¬ nOk (adv tx n (adv tx n R)) 0 10) : rQ tx n R T = (nI 0, adv tx n (adv tx n R), T) := by unfold rQ; rw [if_pos h, if_neg h2]
theorem rQ_n {tx : Nat → Int32} {n : Nat} {R : RS} {T : TS} (h : ¬ nOk (adv tx n R) 0 127) : rQ tx n R T = (nI 0, adv tx n R, T) := if_neg h
theorem rC_y {tx : Nat → Int32} {n : Nat} {R : RS} {T : TS} (h : nOk (adv tx n R) 0 6) (h2 : nOk (adv tx n (adv tx n R)) 0 6) (h3 : ¬ (adv tx n (adv tx n R)).2.2.2 = (adv tx n R).2.2.2) : rC tx n R T = (bI ((adv tx n (adv tx n (adv tx n R))).2.1 = nI 59), adv tx n (adv tx n (adv tx n R)), (T.1, T.2.1, T.2.2.1, T.2.2.2.1, clA T.2.2.2.2 (adv tx n R).2.2.2.toNatClampNeg (adv tx n (adv tx n R)).2.2.2.toNatClampNeg)) := by unfold rC; rw [if_pos h, if_pos ⟨h2, h3⟩]
theorem rC_n2 {tx : Nat → Int32} {n : Nat} {R : RS} {T : TS} (h : nOk (adv tx n R) 0 6) (h2 : ¬ (nOk (adv tx n (adv tx n R)) 0 6 ∧ ¬ (adv tx n (adv tx n R)).2.2.2 = (adv tx n R).2.2.2)) : rC tx n R T = (nI 0, adv tx n (adv tx n R), T) := by unfold rC; rw [if_pos h, if_neg h2]
theorem rC_n {tx : Nat → Int32} {n : Nat} {R : RS} {T : TS} (h : ¬ nOk (adv tx n R) 0 6) : rC tx n R T = (nI 0, adv tx n R, T) := if_neg h
theorem bI_01 (c : Prop) [Decidable c] : bI c = nI 0 ∨ bI c = nI 1 := by unfold bI; by_cases h : c; (rw [if_pos h]; exact Or.inr rfl); (rw [if_neg h]; exact Or.inl rfl)
theorem rP_01 (tx : Nat → Int32) (n : Nat) (R : RS) (T : TS) : (rP tx n R T).1 = nI 0 ∨ (rP tx n R T).1 = nI 1 := by unfold rP; split; (exact bI_01 _); (exact Or.inl rfl)
theorem rQ_01 (tx : Nat → Int32) (n : Nat) (R : RS) (T : TS) : (rQ tx n R T).1 = nI 0 ∨ (rQ tx n R T).1 = nI 1 := by
  unfold rQ; split
  · split
    · exact bI_01 _
    · exact Or.inl rfl
  · exact Or.inl rfl
theorem rC_01 (tx : Nat → Int32) (n : Nat) (R : RS) (T : TS) : (rC tx n R T).1 = nI 0 ∨ (rC tx n R T).1 = nI 1 := by
  unfold rC; split
  · split
    · exact bI_01 _
    · exact Or.inl rfl
  · exact Or.inl rfl
theorem nar_01 {v : Int32} (h : v = nI 0 ∨ v = nI 1) : narrow .boolean (.int v) = .int v := by rcases h with h | h <;> (rw [h]; rfl)
theorem one_01 {v : Int32} (h : v = nI 0 ∨ v = nI 1) (h2 : ¬ v = 0) : nI 1 = v := by rcases h with h | h; (exact absurd h h2); (exact h.symm)
theorem cl_nI {x : Int32} (h : ¬ x < 0) : x = nI x.toNatClampNeg := by
  obtain ⟨j, hj, rfl⟩ := nI_of h
  rw [nI_clamp hj]
theorem nOk_j {R : RS} {lo hi : Nat} (hl : lo < 2 ^ 31) (hh : hi < 2 ^ 31) (h : nOk R lo hi) : R.2.2.2 = nI R.2.2.2.toNatClampNeg ∧ lo ≤ R.2.2.2.toNatClampNeg ∧ R.2.2.2.toNatClampNeg ≤ hi := by
  have h0 : ¬ R.2.2.2 < 0 := fun z => h.2.1 (Int32.lt_of_lt_of_le z (nI_le (a := 0) (b := lo) (Nat.zero_le _) hl))
  obtain ⟨j, hj, e⟩ := nI_of h0
  rw [e, nI_clamp hj]
  refine ⟨rfl, ?_, ?_⟩
  · have := h.2.1; rw [e, nI_ltI hj hl] at this; omega
  · have := h.2.2; rw [e, nI_ltI hh hj] at this; omega
theorem rI_le {tx : Nat → Int32} {n b : Nat} {R : RS} {T : TS} (h : R.1 ≤ n) (hT : T.1 ≤ 6) : (rI tx n b R T).2.1.1 ≤ n ∧ (rI tx n b R T).2.2.1 ≤ 6 := by
  have a1 := adv_le (tx := tx) h
  have a2 := adv_le (tx := tx) a1.1
  have a3 := adv_le (tx := tx) a2.1
  unfold rI
  split
  · split
    · unfold rQ; split
      · split
        · exact ⟨a3.1, by dsimp only; omega⟩
        · exact ⟨a2.1, hT⟩
      · exact ⟨a1.1, hT⟩
    · exact ⟨h, hT⟩
  · split
    · split
      · exact ⟨h, hT⟩
      · unfold rP; split
        · exact ⟨a2.1, hT⟩
        · exact ⟨a1.1, hT⟩
    · split
      · unfold rC; split
        · split
          · exact ⟨a3.1, hT⟩
          · exact ⟨a2.1, hT⟩
        · exact ⟨a1.1, hT⟩
      · exact ⟨h, hT⟩

set_option maxHeartbeats 4000000 in
set_option maxRecDepth 100000 in
theorem kX7_append (l : Launch) (E : EX) (r0 r1 n : Nat) (tx : Nat → Int32) (R : RS) (x : Int32) (hn : n ≤ 200) : M l E yX7_append wsX7_append { frames := 0, cells := 0, slots := 0, locals := 0 } 0 0 [.ref r0, .int x] [(r0, oB 7 [.ref r1, .int (nI n), .int (nI R.1), .int R.2.1, .int (nI R.2.2.1), .int R.2.2.2]), (r1, iA E 200 tx)] (is1 (some (.int (bI (n < 200)))) [(r0, oB 7 [.ref r1, .int (nI (if n < 200 then n + 1 else n)), .int (nI R.1), .int R.2.1, .int (nI R.2.2.1), .int R.2.2.2]), (r1, iA E 200 (if n < 200 then upd tx n x else tx))]) := by
  refine M.ofG (cc := cX7_append) (maxL := 2) (ret := (some .boolean)) (lv := [(0, .ref r0), (1, .int x)]) (own := RX7) (by decide) rfl rfl (Nat.le_of_ble_eq_true rfl) rfl ?_
  intro K C X _
  have i7 : ∀ w ∈ wsX70, w ∈ wsX7_append := by decide +kernel
  refine g_aload_n C dX7_append_0 rfl 0 rfl ?_
  refine g_get C i7 0 rfl rfl 1 (by decide) (List.mem_of_getElem? (i := 1) rfl) rfl rfl dX7_append_1 ?_
  refine g_sipush C (nI 200) dX7_append_4 (by decide) ?_
  refine g_icmp_ltN C 12 dX7_append_7 (by decide) (by omega) (by omega) (fun cq1 => ?_) (fun cq1 => ?_)
  · refine g_aload_n C dX7_append_12 rfl 0 rfl ?_
    refine g_get C i7 0 rfl rfl 0 (by decide) (List.mem_of_getElem? (i := 2) rfl) rfl rfl dX7_append_13 ?_
    refine g_aload_n C dX7_append_16 rfl 0 rfl ?_
    refine g_get C i7 0 rfl rfl 1 (by decide) (List.mem_of_getElem? (i := 1) rfl) rfl rfl dX7_append_17 ?_
    refine g_iload_n C dX7_append_20 rfl 1 rfl ?_
    refine g_iast C (ws' := fun fq2 => [(r0, oB 7 [.ref r1, .int (nI n), .int (nI R.1), .int R.2.1, .int (nI R.2.2.1), .int R.2.2.2]), (r1, iA E 200 fq2)]) 1 rfl (by omega) (by decide) dX7_append_21 (fun _ _ => rfl) (fun fq2 efq2 => ?_)
    refine g_aload_n C dX7_append_22 rfl 0 rfl ?_
    refine g_dup C dX7_append_23 rfl ?_
    refine g_get C i7 0 rfl rfl 1 (by decide) (List.mem_of_getElem? (i := 1) rfl) rfl rfl dX7_append_24 ?_
    refine g_iconst C (nI 1) dX7_append_27 (by decide) ?_
    refine g_iaddN C dX7_append_28 ?_
    refine g_put C i7 tyX7 tyX7_ok nmX7 0 rfl rfl 1 (by decide) (List.mem_of_getElem? (i := 1) rfl) rfl rfl rfl rfl rfl (Nat.le_of_ble_eq_true rfl) dX7_append_29 (ws' := [(r0, oB 7 [.ref r1, .int (nI (n + 1)), .int (nI R.1), .int R.2.1, .int (nI R.2.2.1), .int R.2.2.2]), (r1, iA E 200 fq2)]) rfl ?_
    refine g_iconst C (nI 1) dX7_append_32 (by decide) ?_
    exact g_zret C X rfl dX7_append_33 (⟨congrArg (fun z => some (Value.int z)) (bI_t (cq1)).symm, by first | (rw [if_pos cq1, if_pos cq1, efq2]; done) | (rw [if_neg (by omega), if_neg (by omega)]; done)⟩)
  · refine g_iconst C (nI 0) dX7_append_10 (by decide) ?_
    exact g_zret C X rfl dX7_append_11 (⟨congrArg (fun z => some (Value.int z)) (bI_f (by omega)).symm, by first | (rw [if_pos cq1, if_pos cq1, ]; done) | (rw [if_neg (by omega), if_neg (by omega)]; done)⟩)

set_option maxHeartbeats 4000000 in
set_option maxRecDepth 100000 in
theorem kX7_empty (l : Launch) (E : EX) (r0 r1 n : Nat) (tx : Nat → Int32) (R : RS)  : M l E yX7_empty wsX7_empty { frames := 0, cells := 0, slots := 0, locals := 0 } 0 0 [.ref r0] [(r0, oB 7 [.ref r1, .int (nI n), .int (nI R.1), .int R.2.1, .int (nI R.2.2.1), .int R.2.2.2])] (is1 (some (.int (nI n))) [(r0, oB 7 [.ref r1, .int (nI 0), .int (nI R.1), .int R.2.1, .int (nI R.2.2.1), .int R.2.2.2])]) := by
  refine M.ofG (cc := cX7_empty) (maxL := 2) (ret := (some .int)) (lv := [(0, .ref r0)]) (own := RX7) (by decide) rfl rfl (Nat.le_of_ble_eq_true rfl) rfl ?_
  intro K C X _
  have i7 : ∀ w ∈ wsX70, w ∈ wsX7_empty := by decide +kernel
  refine g_aload_n C dX7_empty_0 rfl 0 rfl ?_
  refine g_get C i7 0 rfl rfl 1 (by decide) (List.mem_of_getElem? (i := 1) rfl) rfl rfl dX7_empty_1 ?_
  refine g_istore_n C (lv' := [(1, .int (nI n)), (0, .ref r0)]) dX7_empty_4 rfl (by decide) rfl ?_
  refine g_aload_n C dX7_empty_5 rfl 1 rfl ?_
  refine g_iconst C (nI 0) dX7_empty_6 (by decide) ?_
  refine g_put C i7 tyX7 tyX7_ok nmX7 0 rfl rfl 1 (by decide) (List.mem_of_getElem? (i := 1) rfl) rfl rfl rfl rfl rfl (Nat.le_of_ble_eq_true rfl) dX7_empty_7 (ws' := [(r0, oB 7 [.ref r1, .int (nI 0), .int (nI R.1), .int R.2.1, .int (nI R.2.2.1), .int R.2.2.2])]) rfl ?_
  refine g_iload_n C dX7_empty_10 rfl 0 rfl ?_
  exact g_iret C X dX7_empty_11 (⟨rfl, rfl⟩)

set_option maxHeartbeats 4000000 in
set_option maxRecDepth 100000 in
theorem kX7_isDigit (l : Launch) (E : EX) (x : Int32)  : M l E yX7_isDigit wsX7_isDigit { frames := 0, cells := 0, slots := 0, locals := 0 } 0 0 [.int x] [] (is1 (some (.int (bI (dig x)))) []) := by
  refine M.ofG (cc := cX7_isDigit) (maxL := 1) (ret := (some .boolean)) (lv := [(0, .int x)]) (own := RX7) (by decide) rfl rfl (Nat.le_of_ble_eq_true rfl) rfl ?_
  intro K C X _
  refine g_iload_n C dX7_isDigit_0 rfl 0 rfl ?_
  refine g_bipush C (nI 48) dX7_isDigit_1 (by decide) ?_
  refine g_icmp_lt C 16 dX7_isDigit_3 (by decide) (fun cq1 => ?_) (fun cq1 => ?_)
  · refine g_iconst C (nI 0) dX7_isDigit_16 (by decide) ?_
    exact g_zret C X rfl dX7_isDigit_17 (⟨congrArg (fun z => some (Value.int z)) (bI_f (by simp [cq1])).symm, rfl⟩)
  · refine g_iload_n C dX7_isDigit_6 rfl 0 rfl ?_
    refine g_bipush C (nI 57) dX7_isDigit_7 (by decide) ?_
    refine g_icmp_gt C 16 dX7_isDigit_9 (by decide) (fun cq2 => ?_) (fun cq2 => ?_)
    · refine g_iconst C (nI 0) dX7_isDigit_16 (by decide) ?_
      exact g_zret C X rfl dX7_isDigit_17 (⟨congrArg (fun z => some (Value.int z)) (bI_f (by simp [cq1, cq2])).symm, rfl⟩)
    · refine g_iconst C (nI 1) dX7_isDigit_12 (by decide) ?_
      refine g_goto C 17 dX7_isDigit_13 (by decide) ?_
      exact g_zret C X rfl dX7_isDigit_17 (⟨congrArg (fun z => some (Value.int z)) (bI_t (⟨cq1, cq2⟩)).symm, rfl⟩)

set_option maxHeartbeats 4000000 in
set_option maxRecDepth 100000 in
theorem kX7_tokenOf (l : Launch) (E : EX) (x : Int32)  : M l E yX7_tokenOf wsX7_tokenOf { frames := 0, cells := 0, slots := 0, locals := 0 } 0 0 [.int x] [] (is1 (some (.int (tokOf x))) []) := by
  refine M.ofG (cc := cX7_tokenOf) (maxL := 1) (ret := (some .int)) (lv := [(0, .int x)]) (own := RX7) (by decide) rfl rfl (Nat.le_of_ble_eq_true rfl) rfl ?_
  intro K C X _
  refine g_iload_n C dX7_tokenOf_0 rfl 0 rfl ?_
  refine g_bipush C (nI 113) dX7_tokenOf_1 (by decide) ?_
  refine g_icmp_eq C 24 dX7_tokenOf_3 (by decide) (fun cq1 => ?_) (fun cq1 => ?_)
  · refine g_iload_n C dX7_tokenOf_24 rfl 0 rfl ?_
    refine g_goto C 29 dX7_tokenOf_25 (by decide) ?_
    exact g_iret C X dX7_tokenOf_29 (⟨by unfold tokOf; simp [cq1], rfl⟩)
  · refine g_iload_n C dX7_tokenOf_6 rfl 0 rfl ?_
    refine g_bipush C (nI 112) dX7_tokenOf_7 (by decide) ?_
    refine g_icmp_eq C 24 dX7_tokenOf_9 (by decide) (fun cq2 => ?_) (fun cq2 => ?_)
    · refine g_iload_n C dX7_tokenOf_24 rfl 0 rfl ?_
      refine g_goto C 29 dX7_tokenOf_25 (by decide) ?_
      exact g_iret C X dX7_tokenOf_29 (⟨by unfold tokOf; simp [cq1, cq2], rfl⟩)
    · refine g_iload_n C dX7_tokenOf_12 rfl 0 rfl ?_
      refine g_bipush C (nI 120) dX7_tokenOf_13 (by decide) ?_
      refine g_icmp_eq C 24 dX7_tokenOf_15 (by decide) (fun cq3 => ?_) (fun cq3 => ?_)
      · refine g_iload_n C dX7_tokenOf_24 rfl 0 rfl ?_
        refine g_goto C 29 dX7_tokenOf_25 (by decide) ?_
        exact g_iret C X dX7_tokenOf_29 (⟨by unfold tokOf; simp [cq1, cq2, cq3], rfl⟩)
      · refine g_iload_n C dX7_tokenOf_18 rfl 0 rfl ?_
        refine g_bipush C (nI 59) dX7_tokenOf_19 (by decide) ?_
        refine g_icmp_ne C 28 dX7_tokenOf_21 (by decide) (fun cq4 => ?_) (fun cq4 => ?_)
        · refine g_iconst C (nI 2) dX7_tokenOf_28 (by decide) ?_
          exact g_iret C X dX7_tokenOf_29 (⟨by unfold tokOf; simp [cq1, cq2, cq3, cq4], rfl⟩)
        · refine g_iload_n C dX7_tokenOf_24 rfl 0 rfl ?_
          refine g_goto C 29 dX7_tokenOf_25 (by decide) ?_
          exact g_iret C X dX7_tokenOf_29 (⟨by unfold tokOf; simp [cq1, cq2, cq3, cq4], rfl⟩)

set_option maxHeartbeats 4000000 in
set_option maxRecDepth 100000 in
theorem kX7_scanNumber (l : Launch) (E : EX) (r0 r1 n : Nat) (tx : Nat → Int32) (p : Nat) (tok num : Int32) (hn : n ≤ 200) (hp : p < n) : M l E yX7_scanNumber wsX7_scanNumber { frames := 1, cells := 0, slots := 0, locals := 20 } 0 0 [.ref r0] [(r0, oB 7 [.ref r1, .int (nI n), .int (nI p), .int tok, .int (nI p), .int num]), (r1, iA E 200 tx)] (is1 (some (.int (numT tx p (scn tx (n - p) p (nI 0))))) [(r0, oB 7 [.ref r1, .int (nI n), .int (nI ((scn tx (n - p) p (nI 0)).1)), .int tok, .int (nI p), .int ((scn tx (n - p) p (nI 0)).2)]), (r1, iA E 200 tx)]) := by
  refine M.ofG (cc := cX7_scanNumber) (maxL := 2) (ret := (some .int)) (lv := [(0, .ref r0)]) (own := RX7) (by decide) rfl rfl (Nat.le_of_ble_eq_true rfl) rfl ?_
  intro K C X _
  have i7 : ∀ w ∈ wsX70, w ∈ wsX7_scanNumber := by decide +kernel
  refine g_aload_n C dX7_scanNumber_0 rfl 0 rfl ?_
  refine g_iconst C (nI 0) dX7_scanNumber_1 (by decide) ?_
  refine g_put C i7 tyX7 tyX7_ok nmX7 0 rfl rfl 5 (by decide) (List.mem_of_getElem? (i := 1) rfl) rfl rfl rfl rfl rfl (Nat.le_of_ble_eq_true rfl) dX7_scanNumber_2 (ws' := [(r0, oB 7 [.ref r1, .int (nI n), .int (nI p), .int tok, .int (nI p), .int (nI 0)]), (r1, iA E 200 tx)]) rfl ?_
  have L5 : ∀ (zz : Nat) (w : Nat) (x : Int32), (n - w) < zz → (scn tx (n - w) w x = scn tx (n - p) p (nI 0)) → (p ≤ w) → (w ≤ n) → G K 0 0 5 [(0, .ref r0)] [] [(r0, oB 7 [.ref r1, .int (nI n), .int (nI w), .int tok, .int (nI p), .int x]), (r1, iA E 200 tx)] := by
    intro zz
    induction zz with
    | zero => intro w x hL5; exact absurd hL5 (Nat.not_lt_zero _)
    | succ zz ihL5 =>
      intro w x hL5 hs hw hw2
      refine g_aload_n C dX7_scanNumber_5 rfl 0 rfl ?_
      refine g_get C i7 0 rfl rfl 2 (by decide) (List.mem_of_getElem? (i := 2) rfl) rfl rfl dX7_scanNumber_6 ?_
      refine g_aload_n C dX7_scanNumber_9 rfl 0 rfl ?_
      refine g_get C i7 0 rfl rfl 1 (by decide) (List.mem_of_getElem? (i := 3) rfl) rfl rfl dX7_scanNumber_10 ?_
      refine g_icmp_geN C 77 dX7_scanNumber_13 (by decide) (by omega) (by omega) (fun cq1 => ?_) (fun cq1 => ?_)
      · have hR : scn tx (n - p) p (nI 0) = (w, x) := by rw [← hs, show n - w = 0 by omega, scn]
        refine g_aload_n C dX7_scanNumber_77 rfl 0 rfl ?_
        refine g_get C i7 0 rfl rfl 2 (by decide) (List.mem_of_getElem? (i := 2) rfl) rfl rfl dX7_scanNumber_78 ?_
        refine g_aload_n C dX7_scanNumber_81 rfl 0 rfl ?_
        refine g_get C i7 0 rfl rfl 4 (by decide) (List.mem_of_getElem? (i := 5) rfl) rfl rfl dX7_scanNumber_82 ?_
        refine g_isubN C dX7_scanNumber_85 (by omega) ?_
        refine g_iconst C (nI 1) dX7_scanNumber_86 (by decide) ?_
        refine g_icmp_leN C 108 dX7_scanNumber_87 (by decide) (by omega) (by omega) (fun cq2 => ?_) (fun cq2 => ?_)
        · refine g_iconst C (nI 0) dX7_scanNumber_108 (by decide) ?_
          refine g_istore_n C (lv' := [(1, .int (nI 0)), (0, .ref r0)]) dX7_scanNumber_109 rfl (by decide) rfl ?_
          refine g_iload_n C dX7_scanNumber_110 rfl 0 rfl ?_
          refine g_if_neN C 123 dX7_scanNumber_111 (by decide) (by omega) (fun cq3 => ?_) (fun cq3 => ?_)
          · exact absurd cq3 (by decide)
          · refine g_aload_n C dX7_scanNumber_114 rfl 1 rfl ?_
            refine g_get C i7 0 rfl rfl 5 (by decide) (List.mem_of_getElem? (i := 1) rfl) rfl rfl dX7_scanNumber_115 ?_
            refine g_bipush C (nI 127) dX7_scanNumber_118 (by decide) ?_
            refine g_icmp_le C 127 dX7_scanNumber_120 (by decide) (fun cq4 => ?_) (fun cq4 => ?_)
            · refine g_iconst C (nI 1) dX7_scanNumber_127 (by decide) ?_
              exact g_iret C X dX7_scanNumber_128 (⟨by rw [hR, numT]; first | (simp [cq1, cq2, cq3, cq4]; done) | (simp [cq1, cq2, cq3, cq4]; omega), by rw [hR]⟩)
            · refine g_iconst C (nI 2) dX7_scanNumber_123 (by decide) ?_
              refine g_goto C 128 dX7_scanNumber_124 (by decide) ?_
              exact g_iret C X dX7_scanNumber_128 (⟨by rw [hR, numT]; first | (simp [cq1, cq2, cq3, cq4]; done) | (simp [cq1, cq2, cq3, cq4]; omega), by rw [hR]⟩)
        · refine g_aload_n C dX7_scanNumber_90 rfl 0 rfl ?_
          refine g_get C i7 0 rfl rfl 0 (by decide) (List.mem_of_getElem? (i := 4) rfl) rfl rfl dX7_scanNumber_91 ?_
          refine g_aload_n C dX7_scanNumber_94 rfl 0 rfl ?_
          refine g_get C i7 0 rfl rfl 4 (by decide) (List.mem_of_getElem? (i := 5) rfl) rfl rfl dX7_scanNumber_95 ?_
          refine g_iald C 1 rfl (by omega) (by decide) dX7_scanNumber_98 ?_
          refine g_bipush C (nI 48) dX7_scanNumber_99 (by decide) ?_
          refine g_icmp_ne C 108 dX7_scanNumber_101 (by decide) (fun cq5 => ?_) (fun cq5 => ?_)
          · refine g_iconst C (nI 0) dX7_scanNumber_108 (by decide) ?_
            refine g_istore_n C (lv' := [(1, .int (nI 0)), (0, .ref r0)]) dX7_scanNumber_109 rfl (by decide) rfl ?_
            refine g_iload_n C dX7_scanNumber_110 rfl 0 rfl ?_
            refine g_if_neN C 123 dX7_scanNumber_111 (by decide) (by omega) (fun cq6 => ?_) (fun cq6 => ?_)
            · exact absurd cq6 (by decide)
            · refine g_aload_n C dX7_scanNumber_114 rfl 1 rfl ?_
              refine g_get C i7 0 rfl rfl 5 (by decide) (List.mem_of_getElem? (i := 1) rfl) rfl rfl dX7_scanNumber_115 ?_
              refine g_bipush C (nI 127) dX7_scanNumber_118 (by decide) ?_
              refine g_icmp_le C 127 dX7_scanNumber_120 (by decide) (fun cq7 => ?_) (fun cq7 => ?_)
              · refine g_iconst C (nI 1) dX7_scanNumber_127 (by decide) ?_
                exact g_iret C X dX7_scanNumber_128 (⟨by rw [hR, numT]; first | (simp [cq1, cq2, cq5, cq6, cq7]; done) | (simp [cq1, cq2, cq5, cq6, cq7]; omega), by rw [hR]⟩)
              · refine g_iconst C (nI 2) dX7_scanNumber_123 (by decide) ?_
                refine g_goto C 128 dX7_scanNumber_124 (by decide) ?_
                exact g_iret C X dX7_scanNumber_128 (⟨by rw [hR, numT]; first | (simp [cq1, cq2, cq5, cq6, cq7]; done) | (simp [cq1, cq2, cq5, cq6, cq7]; omega), by rw [hR]⟩)
          · refine g_iconst C (nI 1) dX7_scanNumber_104 (by decide) ?_
            refine g_goto C 109 dX7_scanNumber_105 (by decide) ?_
            refine g_istore_n C (lv' := [(1, .int (nI 1)), (0, .ref r0)]) dX7_scanNumber_109 rfl (by decide) rfl ?_
            refine g_iload_n C dX7_scanNumber_110 rfl 0 rfl ?_
            refine g_if_neN C 123 dX7_scanNumber_111 (by decide) (by omega) (fun cq8 => ?_) (fun cq8 => ?_)
            · refine g_iconst C (nI 2) dX7_scanNumber_123 (by decide) ?_
              refine g_goto C 128 dX7_scanNumber_124 (by decide) ?_
              exact g_iret C X dX7_scanNumber_128 (⟨by rw [hR, numT]; first | (simp [cq1, cq2, cq5, cq8]; done) | (simp [cq1, cq2, cq5, cq8]; omega), by rw [hR]⟩)
            · exact absurd cq8 (by decide)
      · refine g_aload_n C dX7_scanNumber_16 rfl 0 rfl ?_
        refine g_get C i7 0 rfl rfl 0 (by decide) (List.mem_of_getElem? (i := 4) rfl) rfl rfl dX7_scanNumber_17 ?_
        refine g_aload_n C dX7_scanNumber_20 rfl 0 rfl ?_
        refine g_get C i7 0 rfl rfl 2 (by decide) (List.mem_of_getElem? (i := 2) rfl) rfl rfl dX7_scanNumber_21 ?_
        refine g_iald C 1 rfl (by omega) (by decide) dX7_scanNumber_24 ?_
        refine g_callS C (rest := []) (n := 1) (kX7_isDigit l E (tx w) ) gX7_scanNumber_X7_isDigit rfl ⟨rfl, rfl⟩ (by decide) (Nat.le_of_ble_eq_true rfl) rfl (by decide +kernel) rfl dX7_scanNumber_25 [] [0, 1] rfl rfl ?_
        refine g_is1 (ws2 := [(r0, oB 7 [.ref r1, .int (nI n), .int (nI w), .int tok, .int (nI p), .int x]), (r1, iA E 200 tx)]) (st2 := [.int (bI (dig (tx w)))]) [0, 1] rfl rfl rfl ?_
        refine g_if_eqB C 77 dX7_scanNumber_28 (by decide) (fun cq9 => ?_) (fun cq9 => ?_)
        · have hR : scn tx (n - p) p (nI 0) = (w, x) := by rw [← hs, show n - w = (n - (w + 1)) + 1 by omega, scn, if_neg cq9]
          refine g_aload_n C dX7_scanNumber_77 rfl 0 rfl ?_
          refine g_get C i7 0 rfl rfl 2 (by decide) (List.mem_of_getElem? (i := 2) rfl) rfl rfl dX7_scanNumber_78 ?_
          refine g_aload_n C dX7_scanNumber_81 rfl 0 rfl ?_
          refine g_get C i7 0 rfl rfl 4 (by decide) (List.mem_of_getElem? (i := 5) rfl) rfl rfl dX7_scanNumber_82 ?_
          refine g_isubN C dX7_scanNumber_85 (by omega) ?_
          refine g_iconst C (nI 1) dX7_scanNumber_86 (by decide) ?_
          refine g_icmp_leN C 108 dX7_scanNumber_87 (by decide) (by omega) (by omega) (fun cq10 => ?_) (fun cq10 => ?_)
          · refine g_iconst C (nI 0) dX7_scanNumber_108 (by decide) ?_
            refine g_istore_n C (lv' := [(1, .int (nI 0)), (0, .ref r0)]) dX7_scanNumber_109 rfl (by decide) rfl ?_
            refine g_iload_n C dX7_scanNumber_110 rfl 0 rfl ?_
            refine g_if_neN C 123 dX7_scanNumber_111 (by decide) (by omega) (fun cq11 => ?_) (fun cq11 => ?_)
            · exact absurd cq11 (by decide)
            · refine g_aload_n C dX7_scanNumber_114 rfl 1 rfl ?_
              refine g_get C i7 0 rfl rfl 5 (by decide) (List.mem_of_getElem? (i := 1) rfl) rfl rfl dX7_scanNumber_115 ?_
              refine g_bipush C (nI 127) dX7_scanNumber_118 (by decide) ?_
              refine g_icmp_le C 127 dX7_scanNumber_120 (by decide) (fun cq12 => ?_) (fun cq12 => ?_)
              · refine g_iconst C (nI 1) dX7_scanNumber_127 (by decide) ?_
                exact g_iret C X dX7_scanNumber_128 (⟨by rw [hR, numT]; first | (simp [cq1, cq9, cq10, cq11, cq12]; done) | (simp [cq1, cq9, cq10, cq11, cq12]; omega), by rw [hR]⟩)
              · refine g_iconst C (nI 2) dX7_scanNumber_123 (by decide) ?_
                refine g_goto C 128 dX7_scanNumber_124 (by decide) ?_
                exact g_iret C X dX7_scanNumber_128 (⟨by rw [hR, numT]; first | (simp [cq1, cq9, cq10, cq11, cq12]; done) | (simp [cq1, cq9, cq10, cq11, cq12]; omega), by rw [hR]⟩)
          · refine g_aload_n C dX7_scanNumber_90 rfl 0 rfl ?_
            refine g_get C i7 0 rfl rfl 0 (by decide) (List.mem_of_getElem? (i := 4) rfl) rfl rfl dX7_scanNumber_91 ?_
            refine g_aload_n C dX7_scanNumber_94 rfl 0 rfl ?_
            refine g_get C i7 0 rfl rfl 4 (by decide) (List.mem_of_getElem? (i := 5) rfl) rfl rfl dX7_scanNumber_95 ?_
            refine g_iald C 1 rfl (by omega) (by decide) dX7_scanNumber_98 ?_
            refine g_bipush C (nI 48) dX7_scanNumber_99 (by decide) ?_
            refine g_icmp_ne C 108 dX7_scanNumber_101 (by decide) (fun cq13 => ?_) (fun cq13 => ?_)
            · refine g_iconst C (nI 0) dX7_scanNumber_108 (by decide) ?_
              refine g_istore_n C (lv' := [(1, .int (nI 0)), (0, .ref r0)]) dX7_scanNumber_109 rfl (by decide) rfl ?_
              refine g_iload_n C dX7_scanNumber_110 rfl 0 rfl ?_
              refine g_if_neN C 123 dX7_scanNumber_111 (by decide) (by omega) (fun cq14 => ?_) (fun cq14 => ?_)
              · exact absurd cq14 (by decide)
              · refine g_aload_n C dX7_scanNumber_114 rfl 1 rfl ?_
                refine g_get C i7 0 rfl rfl 5 (by decide) (List.mem_of_getElem? (i := 1) rfl) rfl rfl dX7_scanNumber_115 ?_
                refine g_bipush C (nI 127) dX7_scanNumber_118 (by decide) ?_
                refine g_icmp_le C 127 dX7_scanNumber_120 (by decide) (fun cq15 => ?_) (fun cq15 => ?_)
                · refine g_iconst C (nI 1) dX7_scanNumber_127 (by decide) ?_
                  exact g_iret C X dX7_scanNumber_128 (⟨by rw [hR, numT]; first | (simp [cq1, cq9, cq10, cq13, cq14, cq15]; done) | (simp [cq1, cq9, cq10, cq13, cq14, cq15]; omega), by rw [hR]⟩)
                · refine g_iconst C (nI 2) dX7_scanNumber_123 (by decide) ?_
                  refine g_goto C 128 dX7_scanNumber_124 (by decide) ?_
                  exact g_iret C X dX7_scanNumber_128 (⟨by rw [hR, numT]; first | (simp [cq1, cq9, cq10, cq13, cq14, cq15]; done) | (simp [cq1, cq9, cq10, cq13, cq14, cq15]; omega), by rw [hR]⟩)
            · refine g_iconst C (nI 1) dX7_scanNumber_104 (by decide) ?_
              refine g_goto C 109 dX7_scanNumber_105 (by decide) ?_
              refine g_istore_n C (lv' := [(1, .int (nI 1)), (0, .ref r0)]) dX7_scanNumber_109 rfl (by decide) rfl ?_
              refine g_iload_n C dX7_scanNumber_110 rfl 0 rfl ?_
              refine g_if_neN C 123 dX7_scanNumber_111 (by decide) (by omega) (fun cq16 => ?_) (fun cq16 => ?_)
              · refine g_iconst C (nI 2) dX7_scanNumber_123 (by decide) ?_
                refine g_goto C 128 dX7_scanNumber_124 (by decide) ?_
                exact g_iret C X dX7_scanNumber_128 (⟨by rw [hR, numT]; first | (simp [cq1, cq9, cq10, cq13, cq16]; done) | (simp [cq1, cq9, cq10, cq13, cq16]; omega), by rw [hR]⟩)
              · exact absurd cq16 (by decide)
        · have hd : dig (tx w) := cq9
          refine g_aload_n C dX7_scanNumber_31 rfl 0 rfl ?_
          refine g_get C i7 0 rfl rfl 5 (by decide) (List.mem_of_getElem? (i := 1) rfl) rfl rfl dX7_scanNumber_32 ?_
          refine g_bipush C (nI 127) dX7_scanNumber_35 (by decide) ?_
          refine g_icmp_gt C 64 dX7_scanNumber_37 (by decide) (fun cq17 => ?_) (fun cq17 => ?_)
          · refine g_aload_n C dX7_scanNumber_64 rfl 0 rfl ?_
            refine g_dup C dX7_scanNumber_65 rfl ?_
            refine g_get C i7 0 rfl rfl 2 (by decide) (List.mem_of_getElem? (i := 2) rfl) rfl rfl dX7_scanNumber_66 ?_
            refine g_iconst C (nI 1) dX7_scanNumber_69 (by decide) ?_
            refine g_iaddN C dX7_scanNumber_70 ?_
            refine g_put C i7 tyX7 tyX7_ok nmX7 0 rfl rfl 2 (by decide) (List.mem_of_getElem? (i := 2) rfl) rfl rfl rfl rfl rfl (Nat.le_of_ble_eq_true rfl) dX7_scanNumber_71 (ws' := [(r0, oB 7 [.ref r1, .int (nI n), .int (nI (w + 1)), .int tok, .int (nI p), .int x]), (r1, iA E 200 tx)]) rfl ?_
            refine g_goto C 5 dX7_scanNumber_74 (by decide) ?_
            exact ihL5 (w + 1) x (by omega) (by rw [← hs, show n - w = (n - (w + 1)) + 1 by omega, scn, if_pos hd, nst]; first | (rw [if_pos cq17]; done) | (rw [if_neg cq17]; done)) (by first | omega | (simp [hs, hw, hw2, cq1, cq9, hd, cq17]; done)) (by first | omega | (simp [hs, hw, hw2, cq1, cq9, hd, cq17]; done))
          · refine g_aload_n C dX7_scanNumber_40 rfl 0 rfl ?_
            refine g_aload_n C dX7_scanNumber_41 rfl 0 rfl ?_
            refine g_get C i7 0 rfl rfl 5 (by decide) (List.mem_of_getElem? (i := 1) rfl) rfl rfl dX7_scanNumber_42 ?_
            refine g_bipush C (nI 10) dX7_scanNumber_45 (by decide) ?_
            refine g_imul C dX7_scanNumber_47 ?_
            refine g_aload_n C dX7_scanNumber_48 rfl 0 rfl ?_
            refine g_get C i7 0 rfl rfl 0 (by decide) (List.mem_of_getElem? (i := 4) rfl) rfl rfl dX7_scanNumber_49 ?_
            refine g_aload_n C dX7_scanNumber_52 rfl 0 rfl ?_
            refine g_get C i7 0 rfl rfl 2 (by decide) (List.mem_of_getElem? (i := 2) rfl) rfl rfl dX7_scanNumber_53 ?_
            refine g_iald C 1 rfl (by omega) (by decide) dX7_scanNumber_56 ?_
            refine g_iadd C dX7_scanNumber_57 ?_
            refine g_bipush C (nI 48) dX7_scanNumber_58 (by decide) ?_
            refine g_isub C dX7_scanNumber_60 ?_
            refine g_put C i7 tyX7 tyX7_ok nmX7 0 rfl rfl 5 (by decide) (List.mem_of_getElem? (i := 1) rfl) rfl rfl rfl rfl rfl (Nat.le_of_ble_eq_true rfl) dX7_scanNumber_61 (ws' := [(r0, oB 7 [.ref r1, .int (nI n), .int (nI w), .int tok, .int (nI p), .int (((x * (nI 10)) + (tx w)) - (nI 48))]), (r1, iA E 200 tx)]) rfl ?_
            refine g_aload_n C dX7_scanNumber_64 rfl 0 rfl ?_
            refine g_dup C dX7_scanNumber_65 rfl ?_
            refine g_get C i7 0 rfl rfl 2 (by decide) (List.mem_of_getElem? (i := 2) rfl) rfl rfl dX7_scanNumber_66 ?_
            refine g_iconst C (nI 1) dX7_scanNumber_69 (by decide) ?_
            refine g_iaddN C dX7_scanNumber_70 ?_
            refine g_put C i7 tyX7 tyX7_ok nmX7 0 rfl rfl 2 (by decide) (List.mem_of_getElem? (i := 2) rfl) rfl rfl rfl rfl rfl (Nat.le_of_ble_eq_true rfl) dX7_scanNumber_71 (ws' := [(r0, oB 7 [.ref r1, .int (nI n), .int (nI (w + 1)), .int tok, .int (nI p), .int (((x * (nI 10)) + (tx w)) - (nI 48))]), (r1, iA E 200 tx)]) rfl ?_
            refine g_goto C 5 dX7_scanNumber_74 (by decide) ?_
            exact ihL5 (w + 1) (((x * (nI 10)) + (tx w)) - (nI 48)) (by omega) (by rw [← hs, show n - w = (n - (w + 1)) + 1 by omega, scn, if_pos hd, nst]; first | (rw [if_pos cq17]; done) | (rw [if_neg cq17]; done)) (by first | omega | (simp [hs, hw, hw2, cq1, cq9, hd, cq17]; done)) (by first | omega | (simp [hs, hw, hw2, cq1, cq9, hd, cq17]; done))
  exact L5 ((n - p) + 1) p (nI 0) (Nat.lt_succ_self _) (rfl) (Nat.le_refl p) (by omega)

set_option maxHeartbeats 4000000 in
set_option maxRecDepth 100000 in
theorem kX7_advance (l : Launch) (E : EX) (r0 r1 n : Nat) (tx : Nat → Int32) (R : RS) (hn : n ≤ 200) (hp : R.1 ≤ n) : M l E yX7_advance wsX7_advance { frames := 2, cells := 0, slots := 0, locals := 41 } 0 0 [.ref r0] [(r0, oB 7 [.ref r1, .int (nI n), .int (nI R.1), .int R.2.1, .int (nI R.2.2.1), .int R.2.2.2]), (r1, iA E 200 tx)] (is1 none [(r0, oB 7 [.ref r1, .int (nI n), .int (nI ((adv tx n R).1)), .int ((adv tx n R).2.1), .int (nI ((adv tx n R).2.2.1)), .int ((adv tx n R).2.2.2)]), (r1, iA E 200 tx)]) := by
  refine M.ofG (cc := cX7_advance) (maxL := 1) (ret := none) (lv := [(0, .ref r0)]) (own := RX7) (by decide) rfl rfl (Nat.le_of_ble_eq_true rfl) rfl ?_
  intro K C X _
  have i7 : ∀ w ∈ wsX70, w ∈ wsX7_advance := by decide +kernel
  have L0 : ∀ (zz : Nat) (w : Nat), (n - w) < zz → (skp tx (n - w) w = skp tx (n - R.1) R.1) → (w ≤ n) → G K 0 0 0 [(0, .ref r0)] [] [(r0, oB 7 [.ref r1, .int (nI n), .int (nI w), .int R.2.1, .int (nI R.2.2.1), .int R.2.2.2]), (r1, iA E 200 tx)] := by
    intro zz
    induction zz with
    | zero => intro w hL0; exact absurd hL0 (Nat.not_lt_zero _)
    | succ zz ihL0 =>
      intro w hL0 hs hw
      refine g_aload_n C dX7_advance_0 rfl 0 rfl ?_
      refine g_get C i7 0 rfl rfl 2 (by decide) (List.mem_of_getElem? (i := 1) rfl) rfl rfl dX7_advance_1 ?_
      refine g_aload_n C dX7_advance_4 rfl 0 rfl ?_
      refine g_get C i7 0 rfl rfl 1 (by decide) (List.mem_of_getElem? (i := 2) rfl) rfl rfl dX7_advance_5 ?_
      refine g_icmp_geN C 38 dX7_advance_8 (by decide) (by omega) (by omega) (fun cq1 => ?_) (fun cq1 => ?_)
      · have hS : skp tx (n - R.1) R.1 = w := by rw [← hs, show n - w = 0 by omega, skp]
        refine g_aload_n C dX7_advance_38 rfl 0 rfl ?_
        refine g_aload_n C dX7_advance_39 rfl 0 rfl ?_
        refine g_get C i7 0 rfl rfl 2 (by decide) (List.mem_of_getElem? (i := 1) rfl) rfl rfl dX7_advance_40 ?_
        refine g_put C i7 tyX7 tyX7_ok nmX7 0 rfl rfl 4 (by decide) (List.mem_of_getElem? (i := 4) rfl) rfl rfl rfl rfl rfl (Nat.le_of_ble_eq_true rfl) dX7_advance_43 (ws' := [(r0, oB 7 [.ref r1, .int (nI n), .int (nI w), .int R.2.1, .int (nI w), .int R.2.2.2]), (r1, iA E 200 tx)]) rfl ?_
        refine g_aload_n C dX7_advance_46 rfl 0 rfl ?_
        refine g_get C i7 0 rfl rfl 2 (by decide) (List.mem_of_getElem? (i := 1) rfl) rfl rfl dX7_advance_47 ?_
        refine g_aload_n C dX7_advance_50 rfl 0 rfl ?_
        refine g_get C i7 0 rfl rfl 1 (by decide) (List.mem_of_getElem? (i := 2) rfl) rfl rfl dX7_advance_51 ?_
        refine g_icmp_ltN C 65 dX7_advance_54 (by decide) (by omega) (by omega) (fun cq2 => ?_) (fun cq2 => ?_)
        · refine g_aload_n C dX7_advance_65 rfl 0 rfl ?_
          refine g_get C i7 0 rfl rfl 0 (by decide) (List.mem_of_getElem? (i := 3) rfl) rfl rfl dX7_advance_66 ?_
          refine g_aload_n C dX7_advance_69 rfl 0 rfl ?_
          refine g_get C i7 0 rfl rfl 2 (by decide) (List.mem_of_getElem? (i := 1) rfl) rfl rfl dX7_advance_70 ?_
          refine g_iald C 1 rfl (by omega) (by decide) dX7_advance_73 ?_
          refine g_callS C (rest := []) (n := 1) (kX7_isDigit l E (tx w) ) gX7_advance_X7_isDigit rfl ⟨rfl, rfl⟩ (by decide) (Nat.le_of_ble_eq_true rfl) rfl (by decide +kernel) rfl dX7_advance_74 [] [0, 1] rfl rfl ?_
          refine g_is1 (ws2 := [(r0, oB 7 [.ref r1, .int (nI n), .int (nI w), .int R.2.1, .int (nI w), .int R.2.2.2]), (r1, iA E 200 tx)]) (st2 := [.int (bI (dig (tx w)))]) [0, 1] rfl rfl rfl ?_
          refine g_if_eqB C 91 dX7_advance_77 (by decide) (fun cq3 => ?_) (fun cq3 => ?_)
          · have hdg : ¬ dig (tx w) := cq3
            refine g_aload_n C dX7_advance_91 rfl 0 rfl ?_
            refine g_aload_n C dX7_advance_92 rfl 0 rfl ?_
            refine g_get C i7 0 rfl rfl 0 (by decide) (List.mem_of_getElem? (i := 3) rfl) rfl rfl dX7_advance_93 ?_
            refine g_aload_n C dX7_advance_96 rfl 0 rfl ?_
            refine g_get C i7 0 rfl rfl 2 (by decide) (List.mem_of_getElem? (i := 1) rfl) rfl rfl dX7_advance_97 ?_
            refine g_iald C 1 rfl (by omega) (by decide) dX7_advance_100 ?_
            refine g_callS C (rest := [.ref r0]) (n := 1) (kX7_tokenOf l E (tx w) ) gX7_advance_X7_tokenOf rfl ⟨rfl, rfl⟩ (by decide) (Nat.le_of_ble_eq_true rfl) rfl (by decide +kernel) rfl dX7_advance_101 [] [0, 1] rfl rfl ?_
            refine g_is1 (ws2 := [(r0, oB 7 [.ref r1, .int (nI n), .int (nI w), .int R.2.1, .int (nI w), .int R.2.2.2]), (r1, iA E 200 tx)]) (st2 := [.int (tokOf (tx w)), .ref r0]) [0, 1] rfl rfl rfl ?_
            refine g_put C i7 tyX7 tyX7_ok nmX7 0 rfl rfl 3 (by decide) (List.mem_of_getElem? (i := 5) rfl) rfl rfl rfl rfl rfl (Nat.le_of_ble_eq_true rfl) dX7_advance_104 (ws' := [(r0, oB 7 [.ref r1, .int (nI n), .int (nI w), .int (tokOf (tx w)), .int (nI w), .int R.2.2.2]), (r1, iA E 200 tx)]) rfl ?_
            refine g_aload_n C dX7_advance_107 rfl 0 rfl ?_
            refine g_dup C dX7_advance_108 rfl ?_
            refine g_get C i7 0 rfl rfl 2 (by decide) (List.mem_of_getElem? (i := 1) rfl) rfl rfl dX7_advance_109 ?_
            refine g_iconst C (nI 1) dX7_advance_112 (by decide) ?_
            refine g_iaddN C dX7_advance_113 ?_
            refine g_put C i7 tyX7 tyX7_ok nmX7 0 rfl rfl 2 (by decide) (List.mem_of_getElem? (i := 1) rfl) rfl rfl rfl rfl rfl (Nat.le_of_ble_eq_true rfl) dX7_advance_114 (ws' := [(r0, oB 7 [.ref r1, .int (nI n), .int (nI (w + 1)), .int (tokOf (tx w)), .int (nI w), .int R.2.2.2]), (r1, iA E 200 tx)]) rfl ?_
            exact g_vret C X dX7_advance_117 (⟨rfl, by first | (rw [adv_end hS (by omega)]; done) | (rw [adv_num hS (by omega) hdg]; done) | (rw [adv_tok hS (by omega) hdg]; done) | (exfalso; omega)⟩)
          · have hdg : dig (tx w) := cq3
            refine g_aload_n C dX7_advance_80 rfl 0 rfl ?_
            refine g_aload_n C dX7_advance_81 rfl 0 rfl ?_
            refine g_callV C (rest := [.ref r0]) (n := 0) (kX7_scanNumber l E r0 r1 n tx w R.2.1 R.2.2.2 (by omega) (by omega)) gX7_advance_X7_scanNumber rfl ⟨rfl, rfl⟩ (by decide) (Nat.le_of_ble_eq_true rfl) rfl (by decide +kernel) rfl dX7_advance_82 0 rfl rfl [0, 1] [] rfl rfl ?_
            refine g_is1 (ws2 := [(r0, oB 7 [.ref r1, .int (nI n), .int (nI ((scn tx (n - w) w (nI 0)).1)), .int R.2.1, .int (nI w), .int ((scn tx (n - w) w (nI 0)).2)]), (r1, iA E 200 tx)]) (st2 := [.int (numT tx w (scn tx (n - w) w (nI 0))), .ref r0]) [0, 1] rfl rfl rfl ?_
            refine g_put C i7 tyX7 tyX7_ok nmX7 0 rfl rfl 3 (by decide) (List.mem_of_getElem? (i := 5) rfl) rfl rfl rfl rfl rfl (Nat.le_of_ble_eq_true rfl) dX7_advance_85 (ws' := [(r0, oB 7 [.ref r1, .int (nI n), .int (nI ((scn tx (n - w) w (nI 0)).1)), .int (numT tx w (scn tx (n - w) w (nI 0))), .int (nI w), .int ((scn tx (n - w) w (nI 0)).2)]), (r1, iA E 200 tx)]) rfl ?_
            refine g_goto C 117 dX7_advance_88 (by decide) ?_
            exact g_vret C X dX7_advance_117 (⟨rfl, by first | (rw [adv_end hS (by omega)]; done) | (rw [adv_num hS (by omega) hdg]; done) | (rw [adv_tok hS (by omega) hdg]; done) | (exfalso; omega)⟩)
        · refine g_aload_n C dX7_advance_57 rfl 0 rfl ?_
          refine g_iconst C (nI 0) dX7_advance_58 (by decide) ?_
          refine g_put C i7 tyX7 tyX7_ok nmX7 0 rfl rfl 3 (by decide) (List.mem_of_getElem? (i := 5) rfl) rfl rfl rfl rfl rfl (Nat.le_of_ble_eq_true rfl) dX7_advance_59 (ws' := [(r0, oB 7 [.ref r1, .int (nI n), .int (nI w), .int (nI 0), .int (nI w), .int R.2.2.2]), (r1, iA E 200 tx)]) rfl ?_
          refine g_goto C 117 dX7_advance_62 (by decide) ?_
          exact g_vret C X dX7_advance_117 (⟨rfl, by first | (rw [adv_end hS (by omega)]; done) | (rw [adv_num hS (by omega) hdg]; done) | (rw [adv_tok hS (by omega) hdg]; done) | (exfalso; omega)⟩)
      · refine g_aload_n C dX7_advance_11 rfl 0 rfl ?_
        refine g_get C i7 0 rfl rfl 0 (by decide) (List.mem_of_getElem? (i := 3) rfl) rfl rfl dX7_advance_12 ?_
        refine g_aload_n C dX7_advance_15 rfl 0 rfl ?_
        refine g_get C i7 0 rfl rfl 2 (by decide) (List.mem_of_getElem? (i := 1) rfl) rfl rfl dX7_advance_16 ?_
        refine g_iald C 1 rfl (by omega) (by decide) dX7_advance_19 ?_
        refine g_bipush C (nI 32) dX7_advance_20 (by decide) ?_
        refine g_icmp_ne C 38 dX7_advance_22 (by decide) (fun cq4 => ?_) (fun cq4 => ?_)
        · have hS : skp tx (n - R.1) R.1 = w := by rw [← hs, show n - w = (n - (w + 1)) + 1 by omega, skp, if_neg cq4]
          refine g_aload_n C dX7_advance_38 rfl 0 rfl ?_
          refine g_aload_n C dX7_advance_39 rfl 0 rfl ?_
          refine g_get C i7 0 rfl rfl 2 (by decide) (List.mem_of_getElem? (i := 1) rfl) rfl rfl dX7_advance_40 ?_
          refine g_put C i7 tyX7 tyX7_ok nmX7 0 rfl rfl 4 (by decide) (List.mem_of_getElem? (i := 4) rfl) rfl rfl rfl rfl rfl (Nat.le_of_ble_eq_true rfl) dX7_advance_43 (ws' := [(r0, oB 7 [.ref r1, .int (nI n), .int (nI w), .int R.2.1, .int (nI w), .int R.2.2.2]), (r1, iA E 200 tx)]) rfl ?_
          refine g_aload_n C dX7_advance_46 rfl 0 rfl ?_
          refine g_get C i7 0 rfl rfl 2 (by decide) (List.mem_of_getElem? (i := 1) rfl) rfl rfl dX7_advance_47 ?_
          refine g_aload_n C dX7_advance_50 rfl 0 rfl ?_
          refine g_get C i7 0 rfl rfl 1 (by decide) (List.mem_of_getElem? (i := 2) rfl) rfl rfl dX7_advance_51 ?_
          refine g_icmp_ltN C 65 dX7_advance_54 (by decide) (by omega) (by omega) (fun cq5 => ?_) (fun cq5 => ?_)
          · refine g_aload_n C dX7_advance_65 rfl 0 rfl ?_
            refine g_get C i7 0 rfl rfl 0 (by decide) (List.mem_of_getElem? (i := 3) rfl) rfl rfl dX7_advance_66 ?_
            refine g_aload_n C dX7_advance_69 rfl 0 rfl ?_
            refine g_get C i7 0 rfl rfl 2 (by decide) (List.mem_of_getElem? (i := 1) rfl) rfl rfl dX7_advance_70 ?_
            refine g_iald C 1 rfl (by omega) (by decide) dX7_advance_73 ?_
            refine g_callS C (rest := []) (n := 1) (kX7_isDigit l E (tx w) ) gX7_advance_X7_isDigit rfl ⟨rfl, rfl⟩ (by decide) (Nat.le_of_ble_eq_true rfl) rfl (by decide +kernel) rfl dX7_advance_74 [] [0, 1] rfl rfl ?_
            refine g_is1 (ws2 := [(r0, oB 7 [.ref r1, .int (nI n), .int (nI w), .int R.2.1, .int (nI w), .int R.2.2.2]), (r1, iA E 200 tx)]) (st2 := [.int (bI (dig (tx w)))]) [0, 1] rfl rfl rfl ?_
            refine g_if_eqB C 91 dX7_advance_77 (by decide) (fun cq6 => ?_) (fun cq6 => ?_)
            · have hdg : ¬ dig (tx w) := cq6
              refine g_aload_n C dX7_advance_91 rfl 0 rfl ?_
              refine g_aload_n C dX7_advance_92 rfl 0 rfl ?_
              refine g_get C i7 0 rfl rfl 0 (by decide) (List.mem_of_getElem? (i := 3) rfl) rfl rfl dX7_advance_93 ?_
              refine g_aload_n C dX7_advance_96 rfl 0 rfl ?_
              refine g_get C i7 0 rfl rfl 2 (by decide) (List.mem_of_getElem? (i := 1) rfl) rfl rfl dX7_advance_97 ?_
              refine g_iald C 1 rfl (by omega) (by decide) dX7_advance_100 ?_
              refine g_callS C (rest := [.ref r0]) (n := 1) (kX7_tokenOf l E (tx w) ) gX7_advance_X7_tokenOf rfl ⟨rfl, rfl⟩ (by decide) (Nat.le_of_ble_eq_true rfl) rfl (by decide +kernel) rfl dX7_advance_101 [] [0, 1] rfl rfl ?_
              refine g_is1 (ws2 := [(r0, oB 7 [.ref r1, .int (nI n), .int (nI w), .int R.2.1, .int (nI w), .int R.2.2.2]), (r1, iA E 200 tx)]) (st2 := [.int (tokOf (tx w)), .ref r0]) [0, 1] rfl rfl rfl ?_
              refine g_put C i7 tyX7 tyX7_ok nmX7 0 rfl rfl 3 (by decide) (List.mem_of_getElem? (i := 5) rfl) rfl rfl rfl rfl rfl (Nat.le_of_ble_eq_true rfl) dX7_advance_104 (ws' := [(r0, oB 7 [.ref r1, .int (nI n), .int (nI w), .int (tokOf (tx w)), .int (nI w), .int R.2.2.2]), (r1, iA E 200 tx)]) rfl ?_
              refine g_aload_n C dX7_advance_107 rfl 0 rfl ?_
              refine g_dup C dX7_advance_108 rfl ?_
              refine g_get C i7 0 rfl rfl 2 (by decide) (List.mem_of_getElem? (i := 1) rfl) rfl rfl dX7_advance_109 ?_
              refine g_iconst C (nI 1) dX7_advance_112 (by decide) ?_
              refine g_iaddN C dX7_advance_113 ?_
              refine g_put C i7 tyX7 tyX7_ok nmX7 0 rfl rfl 2 (by decide) (List.mem_of_getElem? (i := 1) rfl) rfl rfl rfl rfl rfl (Nat.le_of_ble_eq_true rfl) dX7_advance_114 (ws' := [(r0, oB 7 [.ref r1, .int (nI n), .int (nI (w + 1)), .int (tokOf (tx w)), .int (nI w), .int R.2.2.2]), (r1, iA E 200 tx)]) rfl ?_
              exact g_vret C X dX7_advance_117 (⟨rfl, by first | (rw [adv_end hS (by omega)]; done) | (rw [adv_num hS (by omega) hdg]; done) | (rw [adv_tok hS (by omega) hdg]; done) | (exfalso; omega)⟩)
            · have hdg : dig (tx w) := cq6
              refine g_aload_n C dX7_advance_80 rfl 0 rfl ?_
              refine g_aload_n C dX7_advance_81 rfl 0 rfl ?_
              refine g_callV C (rest := [.ref r0]) (n := 0) (kX7_scanNumber l E r0 r1 n tx w R.2.1 R.2.2.2 (by omega) (by omega)) gX7_advance_X7_scanNumber rfl ⟨rfl, rfl⟩ (by decide) (Nat.le_of_ble_eq_true rfl) rfl (by decide +kernel) rfl dX7_advance_82 0 rfl rfl [0, 1] [] rfl rfl ?_
              refine g_is1 (ws2 := [(r0, oB 7 [.ref r1, .int (nI n), .int (nI ((scn tx (n - w) w (nI 0)).1)), .int R.2.1, .int (nI w), .int ((scn tx (n - w) w (nI 0)).2)]), (r1, iA E 200 tx)]) (st2 := [.int (numT tx w (scn tx (n - w) w (nI 0))), .ref r0]) [0, 1] rfl rfl rfl ?_
              refine g_put C i7 tyX7 tyX7_ok nmX7 0 rfl rfl 3 (by decide) (List.mem_of_getElem? (i := 5) rfl) rfl rfl rfl rfl rfl (Nat.le_of_ble_eq_true rfl) dX7_advance_85 (ws' := [(r0, oB 7 [.ref r1, .int (nI n), .int (nI ((scn tx (n - w) w (nI 0)).1)), .int (numT tx w (scn tx (n - w) w (nI 0))), .int (nI w), .int ((scn tx (n - w) w (nI 0)).2)]), (r1, iA E 200 tx)]) rfl ?_
              refine g_goto C 117 dX7_advance_88 (by decide) ?_
              exact g_vret C X dX7_advance_117 (⟨rfl, by first | (rw [adv_end hS (by omega)]; done) | (rw [adv_num hS (by omega) hdg]; done) | (rw [adv_tok hS (by omega) hdg]; done) | (exfalso; omega)⟩)
          · refine g_aload_n C dX7_advance_57 rfl 0 rfl ?_
            refine g_iconst C (nI 0) dX7_advance_58 (by decide) ?_
            refine g_put C i7 tyX7 tyX7_ok nmX7 0 rfl rfl 3 (by decide) (List.mem_of_getElem? (i := 5) rfl) rfl rfl rfl rfl rfl (Nat.le_of_ble_eq_true rfl) dX7_advance_59 (ws' := [(r0, oB 7 [.ref r1, .int (nI n), .int (nI w), .int (nI 0), .int (nI w), .int R.2.2.2]), (r1, iA E 200 tx)]) rfl ?_
            refine g_goto C 117 dX7_advance_62 (by decide) ?_
            exact g_vret C X dX7_advance_117 (⟨rfl, by first | (rw [adv_end hS (by omega)]; done) | (rw [adv_num hS (by omega) hdg]; done) | (rw [adv_tok hS (by omega) hdg]; done) | (exfalso; omega)⟩)
        · refine g_aload_n C dX7_advance_25 rfl 0 rfl ?_
          refine g_dup C dX7_advance_26 rfl ?_
          refine g_get C i7 0 rfl rfl 2 (by decide) (List.mem_of_getElem? (i := 1) rfl) rfl rfl dX7_advance_27 ?_
          refine g_iconst C (nI 1) dX7_advance_30 (by decide) ?_
          refine g_iaddN C dX7_advance_31 ?_
          refine g_put C i7 tyX7 tyX7_ok nmX7 0 rfl rfl 2 (by decide) (List.mem_of_getElem? (i := 1) rfl) rfl rfl rfl rfl rfl (Nat.le_of_ble_eq_true rfl) dX7_advance_32 (ws' := [(r0, oB 7 [.ref r1, .int (nI n), .int (nI (w + 1)), .int R.2.1, .int (nI R.2.2.1), .int R.2.2.2]), (r1, iA E 200 tx)]) rfl ?_
          refine g_goto C 0 dX7_advance_35 (by decide) ?_
          exact ihL0 (w + 1) (by omega) (by rw [← hs, show n - w = (n - (w + 1)) + 1 by omega, skp, if_pos cq4]) (by first | omega | (simp [hs, hw, cq1, cq4]; done))
  exact L0 ((n - R.1) + 1) R.1 (Nat.lt_succ_self _) (rfl) (by omega)

set_option maxHeartbeats 4000000 in
set_option maxRecDepth 100000 in
theorem kX7_readNumber (l : Launch) (E : EX) (r0 r1 n : Nat) (tx : Nat → Int32) (R : RS) (lo hi : Nat) (hn : n ≤ 200) (hp : R.1 ≤ n) : M l E yX7_readNumber wsX7_readNumber { frames := 3, cells := 0, slots := 0, locals := 61 } 0 0 [.ref r0, .int (nI lo), .int (nI hi)] [(r0, oB 7 [.ref r1, .int (nI n), .int (nI R.1), .int R.2.1, .int (nI R.2.2.1), .int R.2.2.2]), (r1, iA E 200 tx)] (is1 (some (.int (bI (nOk (adv tx n R) lo hi)))) [(r0, oB 7 [.ref r1, .int (nI n), .int (nI ((adv tx n R).1)), .int ((adv tx n R).2.1), .int (nI ((adv tx n R).2.2.1)), .int ((adv tx n R).2.2.2)]), (r1, iA E 200 tx)]) := by
  refine M.ofG (cc := cX7_readNumber) (maxL := 3) (ret := (some .boolean)) (lv := [(0, .ref r0), (1, .int (nI lo)), (2, .int (nI hi))]) (own := RX7) (by decide) rfl rfl (Nat.le_of_ble_eq_true rfl) rfl ?_
  intro K C X _
  have i7 : ∀ w ∈ wsX70, w ∈ wsX7_readNumber := by decide +kernel
  refine g_aload_n C dX7_readNumber_0 rfl 0 rfl ?_
  refine g_callV C (rest := []) (n := 0) (kX7_advance l E r0 r1 n tx R (by omega) (by omega)) gX7_readNumber_X7_advance rfl ⟨rfl, rfl⟩ (by decide) (Nat.le_of_ble_eq_true rfl) rfl (by decide +kernel) rfl dX7_readNumber_1 0 rfl rfl [0, 1] [] rfl rfl ?_
  refine g_is1 (ws2 := [(r0, oB 7 [.ref r1, .int (nI n), .int (nI ((adv tx n R).1)), .int ((adv tx n R).2.1), .int (nI ((adv tx n R).2.2.1)), .int ((adv tx n R).2.2.2)]), (r1, iA E 200 tx)]) (st2 := []) [0, 1] rfl rfl rfl ?_
  refine g_aload_n C dX7_readNumber_4 rfl 0 rfl ?_
  refine g_get C i7 0 rfl rfl 3 (by decide) (List.mem_of_getElem? (i := 1) rfl) rfl rfl dX7_readNumber_5 ?_
  refine g_iconst C (nI 1) dX7_readNumber_8 (by decide) ?_
  refine g_icmp_ne C 32 dX7_readNumber_9 (by decide) (fun cq1 => ?_) (fun cq1 => ?_)
  · refine g_iconst C (nI 0) dX7_readNumber_32 (by decide) ?_
    exact g_zret C X rfl dX7_readNumber_33 (⟨congrArg (fun z => some (Value.int z)) (bI_f (by simp [cq1])).symm, rfl⟩)
  · refine g_aload_n C dX7_readNumber_12 rfl 0 rfl ?_
    refine g_get C i7 0 rfl rfl 5 (by decide) (List.mem_of_getElem? (i := 2) rfl) rfl rfl dX7_readNumber_13 ?_
    refine g_iload_n C dX7_readNumber_16 rfl 1 rfl ?_
    refine g_icmp_lt C 32 dX7_readNumber_17 (by decide) (fun cq2 => ?_) (fun cq2 => ?_)
    · refine g_iconst C (nI 0) dX7_readNumber_32 (by decide) ?_
      exact g_zret C X rfl dX7_readNumber_33 (⟨congrArg (fun z => some (Value.int z)) (bI_f (by simp [cq1, cq2])).symm, rfl⟩)
    · refine g_aload_n C dX7_readNumber_20 rfl 0 rfl ?_
      refine g_get C i7 0 rfl rfl 5 (by decide) (List.mem_of_getElem? (i := 2) rfl) rfl rfl dX7_readNumber_21 ?_
      refine g_iload_n C dX7_readNumber_24 rfl 2 rfl ?_
      refine g_icmp_gt C 32 dX7_readNumber_25 (by decide) (fun cq3 => ?_) (fun cq3 => ?_)
      · refine g_iconst C (nI 0) dX7_readNumber_32 (by decide) ?_
        exact g_zret C X rfl dX7_readNumber_33 (⟨congrArg (fun z => some (Value.int z)) (bI_f (by simp [cq1, cq2, cq3])).symm, rfl⟩)
      · refine g_iconst C (nI 1) dX7_readNumber_28 (by decide) ?_
        refine g_goto C 33 dX7_readNumber_29 (by decide) ?_
        exact g_zret C X rfl dX7_readNumber_33 (⟨congrArg (fun z => some (Value.int z)) (bI_t (⟨cq1, cq2, cq3⟩)).symm, rfl⟩)

set_option maxHeartbeats 4000000 in
set_option maxRecDepth 100000 in
theorem kX7_readItemEnd (l : Launch) (E : EX) (r0 r1 n : Nat) (tx : Nat → Int32) (R : RS) (hn : n ≤ 200) (hp : R.1 ≤ n) : M l E yX7_readItemEnd wsX7_readItemEnd { frames := 3, cells := 0, slots := 0, locals := 61 } 0 0 [.ref r0] [(r0, oB 7 [.ref r1, .int (nI n), .int (nI R.1), .int R.2.1, .int (nI R.2.2.1), .int R.2.2.2]), (r1, iA E 200 tx)] (is1 (some (.int (bI ((adv tx n R).2.1 = nI 59)))) [(r0, oB 7 [.ref r1, .int (nI n), .int (nI ((adv tx n R).1)), .int ((adv tx n R).2.1), .int (nI ((adv tx n R).2.2.1)), .int ((adv tx n R).2.2.2)]), (r1, iA E 200 tx)]) := by
  refine M.ofG (cc := cX7_readItemEnd) (maxL := 1) (ret := (some .boolean)) (lv := [(0, .ref r0)]) (own := RX7) (by decide) rfl rfl (Nat.le_of_ble_eq_true rfl) rfl ?_
  intro K C X _
  have i7 : ∀ w ∈ wsX70, w ∈ wsX7_readItemEnd := by decide +kernel
  refine g_aload_n C dX7_readItemEnd_0 rfl 0 rfl ?_
  refine g_callV C (rest := []) (n := 0) (kX7_advance l E r0 r1 n tx R (by omega) (by omega)) gX7_readItemEnd_X7_advance rfl ⟨rfl, rfl⟩ (by decide) (Nat.le_of_ble_eq_true rfl) rfl (by decide +kernel) rfl dX7_readItemEnd_1 0 rfl rfl [0, 1] [] rfl rfl ?_
  refine g_is1 (ws2 := [(r0, oB 7 [.ref r1, .int (nI n), .int (nI ((adv tx n R).1)), .int ((adv tx n R).2.1), .int (nI ((adv tx n R).2.2.1)), .int ((adv tx n R).2.2.2)]), (r1, iA E 200 tx)]) (st2 := []) [0, 1] rfl rfl rfl ?_
  refine g_aload_n C dX7_readItemEnd_4 rfl 0 rfl ?_
  refine g_get C i7 0 rfl rfl 3 (by decide) (List.mem_of_getElem? (i := 1) rfl) rfl rfl dX7_readItemEnd_5 ?_
  refine g_bipush C (nI 59) dX7_readItemEnd_8 (by decide) ?_
  refine g_icmp_ne C 17 dX7_readItemEnd_10 (by decide) (fun cq1 => ?_) (fun cq1 => ?_)
  · refine g_iconst C (nI 0) dX7_readItemEnd_17 (by decide) ?_
    exact g_zret C X rfl dX7_readItemEnd_18 (⟨congrArg (fun z => some (Value.int z)) (bI_f (cq1)).symm, rfl⟩)
  · refine g_iconst C (nI 1) dX7_readItemEnd_13 (by decide) ?_
    refine g_goto C 18 dX7_readItemEnd_14 (by decide) ?_
    exact g_zret C X rfl dX7_readItemEnd_18 (⟨congrArg (fun z => some (Value.int z)) (bI_t (cq1)).symm, rfl⟩)

set_option maxHeartbeats 4000000 in
set_option maxRecDepth 100000 in
theorem kX7_readPillows (l : Launch) (E : EX) (r0 r1 n : Nat) (tx : Nat → Int32) (R : RS) (t0 t1 t2 t3 : Nat) (T : TS) (hn : n ≤ 200) (hp : R.1 ≤ n) : M l E yX7_readPillows wsX7_readPillows { frames := 4, cells := 0, slots := 0, locals := 83 } 0 0 [.ref r0, .ref t0] [(r0, oB 7 [.ref r1, .int (nI n), .int (nI R.1), .int R.2.1, .int (nI R.2.2.1), .int R.2.2.2]), (r1, iA E 200 tx), (t0, oB 10 [.ref t1, .ref t2, .ref t3, .int (nI T.1), .int (nI T.2.1)]), (t1, iA E 6 T.2.2.1), (t2, iA E 6 T.2.2.2.1), (t3, iA E 7 T.2.2.2.2)] (is1 (some (.int ((rP tx n R T).1))) [(r0, oB 7 [.ref r1, .int (nI n), .int (nI (((rP tx n R T).2.1).1)), .int (((rP tx n R T).2.1).2.1), .int (nI (((rP tx n R T).2.1).2.2.1)), .int (((rP tx n R T).2.1).2.2.2)]), (r1, iA E 200 tx), (t0, oB 10 [.ref t1, .ref t2, .ref t3, .int (nI (((rP tx n R T).2.2).1)), .int (nI (((rP tx n R T).2.2).2.1))]), (t1, iA E 6 (((rP tx n R T).2.2).2.2.1)), (t2, iA E 6 (((rP tx n R T).2.2).2.2.2.1)), (t3, iA E 7 (((rP tx n R T).2.2).2.2.2.2))]) := by
  refine M.ofG (cc := cX7_readPillows) (maxL := 2) (ret := (some .boolean)) (lv := [(0, .ref r0), (1, .ref t0)]) (own := RX7) (by decide) rfl rfl (Nat.le_of_ble_eq_true rfl) rfl ?_
  intro K C X _
  have i7 : ∀ w ∈ wsX70, w ∈ wsX7_readPillows := by decide +kernel
  have i10 : ∀ w ∈ wsX100, w ∈ wsX7_readPillows := by decide +kernel
  refine g_aload_n C dX7_readPillows_0 rfl 0 rfl ?_
  refine g_iconst C (nI 1) dX7_readPillows_1 (by decide) ?_
  refine g_bipush C (nI 6) dX7_readPillows_2 (by decide) ?_
  refine g_callV C (rest := []) (n := 2) (kX7_readNumber l E r0 r1 n tx R 1 6 (by omega) (by omega)) gX7_readPillows_X7_readNumber rfl ⟨rfl, rfl⟩ (by decide) (Nat.le_of_ble_eq_true rfl) rfl (by decide +kernel) rfl dX7_readPillows_4 0 rfl rfl [0, 1] [2, 3, 4, 5] rfl rfl ?_
  refine g_is1 (ws2 := [(r0, oB 7 [.ref r1, .int (nI n), .int (nI ((adv tx n R).1)), .int ((adv tx n R).2.1), .int (nI ((adv tx n R).2.2.1)), .int ((adv tx n R).2.2.2)]), (r1, iA E 200 tx), (t0, oB 10 [.ref t1, .ref t2, .ref t3, .int (nI T.1), .int (nI T.2.1)]), (t1, iA E 6 T.2.2.1), (t2, iA E 6 T.2.2.2.1), (t3, iA E 7 T.2.2.2.2)]) (st2 := [.int (bI (nOk (adv tx n R) 1 6))]) [4, 5, 0, 1, 2, 3] rfl rfl rfl ?_
  refine g_if_neB C 12 dX7_readPillows_7 (by decide) (fun cq1 => ?_) (fun cq1 => ?_)
  · have hv := rP_y (T := T) cq1
    have hj := nOk_j (by decide) (by decide) cq1
    refine g_aload_n C dX7_readPillows_12 rfl 1 rfl ?_
    refine g_aload_n C dX7_readPillows_13 rfl 0 rfl ?_
    refine g_get C i7 0 rfl rfl 5 (by decide) (List.mem_of_getElem? (i := 1) rfl) rfl rfl dX7_readPillows_14 ?_
    refine g_as hj.1 ?_
    refine g_put C i10 tyX10 tyX10_ok nmX10 2 rfl rfl 4 (by decide) (List.mem_of_getElem? (i := 2) rfl) rfl rfl rfl rfl rfl (Nat.le_of_ble_eq_true rfl) dX7_readPillows_17 (ws' := [(r0, oB 7 [.ref r1, .int (nI n), .int (nI ((adv tx n R).1)), .int ((adv tx n R).2.1), .int (nI ((adv tx n R).2.2.1)), .int ((adv tx n R).2.2.2)]), (r1, iA E 200 tx), (t0, oB 10 [.ref t1, .ref t2, .ref t3, .int (nI T.1), .int (nI (((adv tx n R).2.2.2).toNatClampNeg))]), (t1, iA E 6 T.2.2.1), (t2, iA E 6 T.2.2.2.1), (t3, iA E 7 T.2.2.2.2)]) rfl ?_
    refine g_aload_n C dX7_readPillows_20 rfl 0 rfl ?_
    refine g_callV C (rest := []) (n := 0) (kX7_readItemEnd l E r0 r1 n tx (adv tx n R) (hn) ((adv_le hp).1)) gX7_readPillows_X7_readItemEnd rfl ⟨rfl, rfl⟩ (by decide) (Nat.le_of_ble_eq_true rfl) rfl (by decide +kernel) rfl dX7_readPillows_21 0 rfl rfl [0, 1] [2, 3, 4, 5] rfl rfl ?_
    refine g_is1 (ws2 := [(r0, oB 7 [.ref r1, .int (nI n), .int (nI ((adv tx n (adv tx n R)).1)), .int ((adv tx n (adv tx n R)).2.1), .int (nI ((adv tx n (adv tx n R)).2.2.1)), .int ((adv tx n (adv tx n R)).2.2.2)]), (r1, iA E 200 tx), (t0, oB 10 [.ref t1, .ref t2, .ref t3, .int (nI T.1), .int (nI (((adv tx n R).2.2.2).toNatClampNeg))]), (t1, iA E 6 T.2.2.1), (t2, iA E 6 T.2.2.2.1), (t3, iA E 7 T.2.2.2.2)]) (st2 := [.int (bI ((adv tx n (adv tx n R)).2.1 = nI 59))]) [4, 5, 0, 1, 2, 3] rfl rfl rfl ?_
    exact g_zret C X (nar_bI _) dX7_readPillows_24 (⟨by rw [hv], by rw [hv]⟩)
  · have hv := rP_n (T := T) cq1
    refine g_iconst C (nI 0) dX7_readPillows_10 (by decide) ?_
    exact g_zret C X rfl dX7_readPillows_11 (⟨by rw [hv], by rw [hv]⟩)

set_option maxHeartbeats 4000000 in
set_option maxRecDepth 100000 in
theorem kX7_readPerson (l : Launch) (E : EX) (r0 r1 n : Nat) (tx : Nat → Int32) (R : RS) (t0 t1 t2 t3 : Nat) (T : TS) (hn : n ≤ 200) (hp : R.1 ≤ n) (hT : T.1 < 6) : M l E yX7_readPerson wsX7_readPerson { frames := 4, cells := 0, slots := 0, locals := 83 } 0 0 [.ref r0, .ref t0] [(r0, oB 7 [.ref r1, .int (nI n), .int (nI R.1), .int R.2.1, .int (nI R.2.2.1), .int R.2.2.2]), (r1, iA E 200 tx), (t0, oB 10 [.ref t1, .ref t2, .ref t3, .int (nI T.1), .int (nI T.2.1)]), (t1, iA E 6 T.2.2.1), (t2, iA E 6 T.2.2.2.1), (t3, iA E 7 T.2.2.2.2)] (is1 (some (.int ((rQ tx n R T).1))) [(r0, oB 7 [.ref r1, .int (nI n), .int (nI (((rQ tx n R T).2.1).1)), .int (((rQ tx n R T).2.1).2.1), .int (nI (((rQ tx n R T).2.1).2.2.1)), .int (((rQ tx n R T).2.1).2.2.2)]), (r1, iA E 200 tx), (t0, oB 10 [.ref t1, .ref t2, .ref t3, .int (nI (((rQ tx n R T).2.2).1)), .int (nI (((rQ tx n R T).2.2).2.1))]), (t1, iA E 6 (((rQ tx n R T).2.2).2.2.1)), (t2, iA E 6 (((rQ tx n R T).2.2).2.2.2.1)), (t3, iA E 7 (((rQ tx n R T).2.2).2.2.2.2))]) := by
  refine M.ofG (cc := cX7_readPerson) (maxL := 3) (ret := (some .boolean)) (lv := [(0, .ref r0), (1, .ref t0)]) (own := RX7) (by decide) rfl rfl (Nat.le_of_ble_eq_true rfl) rfl ?_
  intro K C X _
  have i7 : ∀ w ∈ wsX70, w ∈ wsX7_readPerson := by decide +kernel
  refine g_aload_n C dX7_readPerson_0 rfl 0 rfl ?_
  refine g_iconst C (nI 0) dX7_readPerson_1 (by decide) ?_
  refine g_bipush C (nI 127) dX7_readPerson_2 (by decide) ?_
  refine g_callV C (rest := []) (n := 2) (kX7_readNumber l E r0 r1 n tx R 0 127 (by omega) (by omega)) gX7_readPerson_X7_readNumber rfl ⟨rfl, rfl⟩ (by decide) (Nat.le_of_ble_eq_true rfl) rfl (by decide +kernel) rfl dX7_readPerson_4 0 rfl rfl [0, 1] [2, 3, 4, 5] rfl rfl ?_
  refine g_is1 (ws2 := [(r0, oB 7 [.ref r1, .int (nI n), .int (nI ((adv tx n R).1)), .int ((adv tx n R).2.1), .int (nI ((adv tx n R).2.2.1)), .int ((adv tx n R).2.2.2)]), (r1, iA E 200 tx), (t0, oB 10 [.ref t1, .ref t2, .ref t3, .int (nI T.1), .int (nI T.2.1)]), (t1, iA E 6 T.2.2.1), (t2, iA E 6 T.2.2.2.1), (t3, iA E 7 T.2.2.2.2)]) (st2 := [.int (bI (nOk (adv tx n R) 0 127))]) [4, 5, 0, 1, 2, 3] rfl rfl rfl ?_
  refine g_if_neB C 12 dX7_readPerson_7 (by decide) (fun cq1 => ?_) (fun cq1 => ?_)
  · refine g_aload_n C dX7_readPerson_12 rfl 0 rfl ?_
    refine g_get C i7 0 rfl rfl 5 (by decide) (List.mem_of_getElem? (i := 1) rfl) rfl rfl dX7_readPerson_13 ?_
    refine g_istore_n C (lv' := [(2, .int ((adv tx n R).2.2.2)), (0, .ref r0), (1, .ref t0)]) dX7_readPerson_16 rfl (by decide) rfl ?_
    refine g_aload_n C dX7_readPerson_17 rfl 1 rfl ?_
    refine g_iconst C (nI 0) dX7_readPerson_18 (by decide) ?_
    refine g_bipush C (nI 10) dX7_readPerson_19 (by decide) ?_
    refine g_callV C (rest := []) (n := 2) (kX7_readNumber l E r0 r1 n tx (adv tx n R) 0 10 (hn) ((adv_le hp).1)) gX7_readPerson_X7_readNumber rfl ⟨rfl, rfl⟩ (by decide) (Nat.le_of_ble_eq_true rfl) rfl (by decide +kernel) rfl dX7_readPerson_21 0 rfl rfl [0, 1] [2, 3, 4, 5] rfl rfl ?_
    refine g_is1 (ws2 := [(r0, oB 7 [.ref r1, .int (nI n), .int (nI ((adv tx n (adv tx n R)).1)), .int ((adv tx n (adv tx n R)).2.1), .int (nI ((adv tx n (adv tx n R)).2.2.1)), .int ((adv tx n (adv tx n R)).2.2.2)]), (r1, iA E 200 tx), (t0, oB 10 [.ref t1, .ref t2, .ref t3, .int (nI T.1), .int (nI T.2.1)]), (t1, iA E 6 T.2.2.1), (t2, iA E 6 T.2.2.2.1), (t3, iA E 7 T.2.2.2.2)]) (st2 := [.int (bI (nOk (adv tx n (adv tx n R)) 0 10))]) [4, 5, 0, 1, 2, 3] rfl rfl rfl ?_
    refine g_if_neB C 29 dX7_readPerson_24 (by decide) (fun cq2 => ?_) (fun cq2 => ?_)
    · have hv := rQ_y (T := T) cq1 cq2
      refine g_aload_n C dX7_readPerson_29 rfl 2 rfl ?_
      refine g_iload_n C dX7_readPerson_30 rfl 0 rfl ?_
      refine g_aload_n C dX7_readPerson_31 rfl 1 rfl ?_
      refine g_get C i7 0 rfl rfl 5 (by decide) (List.mem_of_getElem? (i := 1) rfl) rfl rfl dX7_readPerson_32 ?_
      refine g_callV C (rest := []) (n := 2) (kX10_addPerson l E t0 t1 t2 t3 T.1 T.2.1 T.2.2.1 T.2.2.2.1 ((adv tx n R).2.2.2) ((adv tx n (adv tx n R)).2.2.2) (by omega)) gX7_readPerson_X10_addPerson rfl ⟨rfl, rfl⟩ (by decide) (Nat.le_of_ble_eq_true rfl) rfl (by decide +kernel) rfl dX7_readPerson_35 0 rfl rfl [2, 3, 4] [0, 1, 5] rfl rfl ?_
      refine g_is1 (ws2 := [(r0, oB 7 [.ref r1, .int (nI n), .int (nI ((adv tx n (adv tx n R)).1)), .int ((adv tx n (adv tx n R)).2.1), .int (nI ((adv tx n (adv tx n R)).2.2.1)), .int ((adv tx n (adv tx n R)).2.2.2)]), (r1, iA E 200 tx), (t0, oB 10 [.ref t1, .ref t2, .ref t3, .int (nI (T.1 + 1)), .int (nI T.2.1)]), (t1, iA E 6 (upd T.2.2.1 T.1 ((adv tx n R).2.2.2))), (t2, iA E 6 (upd T.2.2.2.1 T.1 ((adv tx n (adv tx n R)).2.2.2))), (t3, iA E 7 T.2.2.2.2)]) (st2 := []) [0, 1, 3, 4, 5, 2] rfl rfl rfl ?_
      refine g_aload_n C dX7_readPerson_38 rfl 1 rfl ?_
      refine g_callV C (rest := []) (n := 0) (kX7_readItemEnd l E r0 r1 n tx (adv tx n (adv tx n R)) (hn) ((adv_le (adv_le hp).1).1)) gX7_readPerson_X7_readItemEnd rfl ⟨rfl, rfl⟩ (by decide) (Nat.le_of_ble_eq_true rfl) rfl (by decide +kernel) rfl dX7_readPerson_39 0 rfl rfl [0, 1] [2, 3, 4, 5] rfl rfl ?_
      refine g_is1 (ws2 := [(r0, oB 7 [.ref r1, .int (nI n), .int (nI ((adv tx n (adv tx n (adv tx n R))).1)), .int ((adv tx n (adv tx n (adv tx n R))).2.1), .int (nI ((adv tx n (adv tx n (adv tx n R))).2.2.1)), .int ((adv tx n (adv tx n (adv tx n R))).2.2.2)]), (r1, iA E 200 tx), (t0, oB 10 [.ref t1, .ref t2, .ref t3, .int (nI (T.1 + 1)), .int (nI T.2.1)]), (t1, iA E 6 (upd T.2.2.1 T.1 ((adv tx n R).2.2.2))), (t2, iA E 6 (upd T.2.2.2.1 T.1 ((adv tx n (adv tx n R)).2.2.2))), (t3, iA E 7 T.2.2.2.2)]) (st2 := [.int (bI ((adv tx n (adv tx n (adv tx n R))).2.1 = nI 59))]) [4, 5, 0, 1, 2, 3] rfl rfl rfl ?_
      exact g_zret C X (nar_bI _) dX7_readPerson_42 (⟨by rw [hv], by rw [hv]⟩)
    · have hv := rQ_n2 (T := T) cq1 cq2
      refine g_iconst C (nI 0) dX7_readPerson_27 (by decide) ?_
      exact g_zret C X rfl dX7_readPerson_28 (⟨by rw [hv], by rw [hv]⟩)
  · have hv := rQ_n (T := T) cq1
    refine g_iconst C (nI 0) dX7_readPerson_10 (by decide) ?_
    exact g_zret C X rfl dX7_readPerson_11 (⟨by rw [hv], by rw [hv]⟩)

set_option maxHeartbeats 4000000 in
set_option maxRecDepth 100000 in
theorem kX7_readClash (l : Launch) (E : EX) (r0 r1 n : Nat) (tx : Nat → Int32) (R : RS) (t0 t1 t2 t3 : Nat) (T : TS) (hn : n ≤ 200) (hp : R.1 ≤ n) : M l E yX7_readClash wsX7_readClash { frames := 4, cells := 0, slots := 0, locals := 83 } 0 0 [.ref r0, .ref t0] [(r0, oB 7 [.ref r1, .int (nI n), .int (nI R.1), .int R.2.1, .int (nI R.2.2.1), .int R.2.2.2]), (r1, iA E 200 tx), (t0, oB 10 [.ref t1, .ref t2, .ref t3, .int (nI T.1), .int (nI T.2.1)]), (t1, iA E 6 T.2.2.1), (t2, iA E 6 T.2.2.2.1), (t3, iA E 7 T.2.2.2.2)] (is1 (some (.int ((rC tx n R T).1))) [(r0, oB 7 [.ref r1, .int (nI n), .int (nI (((rC tx n R T).2.1).1)), .int (((rC tx n R T).2.1).2.1), .int (nI (((rC tx n R T).2.1).2.2.1)), .int (((rC tx n R T).2.1).2.2.2)]), (r1, iA E 200 tx), (t0, oB 10 [.ref t1, .ref t2, .ref t3, .int (nI (((rC tx n R T).2.2).1)), .int (nI (((rC tx n R T).2.2).2.1))]), (t1, iA E 6 (((rC tx n R T).2.2).2.2.1)), (t2, iA E 6 (((rC tx n R T).2.2).2.2.2.1)), (t3, iA E 7 (((rC tx n R T).2.2).2.2.2.2))]) := by
  refine M.ofG (cc := cX7_readClash) (maxL := 3) (ret := (some .boolean)) (lv := [(0, .ref r0), (1, .ref t0)]) (own := RX7) (by decide) rfl rfl (Nat.le_of_ble_eq_true rfl) rfl ?_
  intro K C X _
  have i7 : ∀ w ∈ wsX70, w ∈ wsX7_readClash := by decide +kernel
  refine g_aload_n C dX7_readClash_0 rfl 0 rfl ?_
  refine g_iconst C (nI 0) dX7_readClash_1 (by decide) ?_
  refine g_bipush C (nI 6) dX7_readClash_2 (by decide) ?_
  refine g_callV C (rest := []) (n := 2) (kX7_readNumber l E r0 r1 n tx R 0 6 (by omega) (by omega)) gX7_readClash_X7_readNumber rfl ⟨rfl, rfl⟩ (by decide) (Nat.le_of_ble_eq_true rfl) rfl (by decide +kernel) rfl dX7_readClash_4 0 rfl rfl [0, 1] [2, 3, 4, 5] rfl rfl ?_
  refine g_is1 (ws2 := [(r0, oB 7 [.ref r1, .int (nI n), .int (nI ((adv tx n R).1)), .int ((adv tx n R).2.1), .int (nI ((adv tx n R).2.2.1)), .int ((adv tx n R).2.2.2)]), (r1, iA E 200 tx), (t0, oB 10 [.ref t1, .ref t2, .ref t3, .int (nI T.1), .int (nI T.2.1)]), (t1, iA E 6 T.2.2.1), (t2, iA E 6 T.2.2.2.1), (t3, iA E 7 T.2.2.2.2)]) (st2 := [.int (bI (nOk (adv tx n R) 0 6))]) [4, 5, 0, 1, 2, 3] rfl rfl rfl ?_
  refine g_if_neB C 12 dX7_readClash_7 (by decide) (fun cq1 => ?_) (fun cq1 => ?_)
  · have hj := nOk_j (by decide) (by decide) cq1
    refine g_aload_n C dX7_readClash_12 rfl 0 rfl ?_
    refine g_get C i7 0 rfl rfl 5 (by decide) (List.mem_of_getElem? (i := 1) rfl) rfl rfl dX7_readClash_13 ?_
    refine g_istore_n C (lv' := [(2, .int ((adv tx n R).2.2.2)), (0, .ref r0), (1, .ref t0)]) dX7_readClash_16 rfl (by decide) rfl ?_
    refine g_aload_n C dX7_readClash_17 rfl 1 rfl ?_
    refine g_iconst C (nI 0) dX7_readClash_18 (by decide) ?_
    refine g_bipush C (nI 6) dX7_readClash_19 (by decide) ?_
    refine g_callV C (rest := []) (n := 2) (kX7_readNumber l E r0 r1 n tx (adv tx n R) 0 6 (hn) ((adv_le hp).1)) gX7_readClash_X7_readNumber rfl ⟨rfl, rfl⟩ (by decide) (Nat.le_of_ble_eq_true rfl) rfl (by decide +kernel) rfl dX7_readClash_21 0 rfl rfl [0, 1] [2, 3, 4, 5] rfl rfl ?_
    refine g_is1 (ws2 := [(r0, oB 7 [.ref r1, .int (nI n), .int (nI ((adv tx n (adv tx n R)).1)), .int ((adv tx n (adv tx n R)).2.1), .int (nI ((adv tx n (adv tx n R)).2.2.1)), .int ((adv tx n (adv tx n R)).2.2.2)]), (r1, iA E 200 tx), (t0, oB 10 [.ref t1, .ref t2, .ref t3, .int (nI T.1), .int (nI T.2.1)]), (t1, iA E 6 T.2.2.1), (t2, iA E 6 T.2.2.2.1), (t3, iA E 7 T.2.2.2.2)]) (st2 := [.int (bI (nOk (adv tx n (adv tx n R)) 0 6))]) [4, 5, 0, 1, 2, 3] rfl rfl rfl ?_
    refine g_if_eqB C 35 dX7_readClash_24 (by decide) (fun cq2 => ?_) (fun cq2 => ?_)
    · have hv := rC_n2 (T := T) cq1 (fun z => cq2 z.1)
      refine g_iconst C (nI 0) dX7_readClash_35 (by decide) ?_
      exact g_zret C X rfl dX7_readClash_36 (⟨by rw [hv], by rw [hv]⟩)
    · have hj2 := nOk_j (by decide) (by decide) cq2
      refine g_aload_n C dX7_readClash_27 rfl 1 rfl ?_
      refine g_get C i7 0 rfl rfl 5 (by decide) (List.mem_of_getElem? (i := 1) rfl) rfl rfl dX7_readClash_28 ?_
      refine g_iload_n C dX7_readClash_31 rfl 0 rfl ?_
      refine g_icmp_ne C 37 dX7_readClash_32 (by decide) (fun cq3 => ?_) (fun cq3 => ?_)
      · have hv := rC_y (T := T) cq1 cq2 cq3
        refine g_aload_n C dX7_readClash_37 rfl 2 rfl ?_
        refine g_iload_n C dX7_readClash_38 rfl 0 rfl ?_
        refine g_as hj.1 ?_
        refine g_aload_n C dX7_readClash_39 rfl 1 rfl ?_
        refine g_get C i7 0 rfl rfl 5 (by decide) (List.mem_of_getElem? (i := 1) rfl) rfl rfl dX7_readClash_40 ?_
        refine g_as hj2.1 ?_
        refine g_callV C (rest := []) (n := 2) (kX10_addClash l E t0 t1 t2 t3 T.1 T.2.1 T.2.2.2.2 (((adv tx n R).2.2.2).toNatClampNeg) (((adv tx n (adv tx n R)).2.2.2).toNatClampNeg) (by omega) (by omega)) gX7_readClash_X10_addClash rfl ⟨rfl, rfl⟩ (by decide) (Nat.le_of_ble_eq_true rfl) rfl (by decide +kernel) rfl dX7_readClash_43 0 rfl rfl [2, 5] [0, 1, 3, 4] rfl rfl ?_
        refine g_is1 (ws2 := [(r0, oB 7 [.ref r1, .int (nI n), .int (nI ((adv tx n (adv tx n R)).1)), .int ((adv tx n (adv tx n R)).2.1), .int (nI ((adv tx n (adv tx n R)).2.2.1)), .int ((adv tx n (adv tx n R)).2.2.2)]), (r1, iA E 200 tx), (t0, oB 10 [.ref t1, .ref t2, .ref t3, .int (nI T.1), .int (nI T.2.1)]), (t1, iA E 6 T.2.2.1), (t2, iA E 6 T.2.2.2.1), (t3, iA E 7 (clA T.2.2.2.2 (((adv tx n R).2.2.2).toNatClampNeg) (((adv tx n (adv tx n R)).2.2.2).toNatClampNeg)))]) (st2 := []) [0, 1, 4, 2, 3, 5] rfl rfl rfl ?_
        refine g_aload_n C dX7_readClash_46 rfl 1 rfl ?_
        refine g_callV C (rest := []) (n := 0) (kX7_readItemEnd l E r0 r1 n tx (adv tx n (adv tx n R)) (hn) ((adv_le (adv_le hp).1).1)) gX7_readClash_X7_readItemEnd rfl ⟨rfl, rfl⟩ (by decide) (Nat.le_of_ble_eq_true rfl) rfl (by decide +kernel) rfl dX7_readClash_47 0 rfl rfl [0, 1] [2, 3, 4, 5] rfl rfl ?_
        refine g_is1 (ws2 := [(r0, oB 7 [.ref r1, .int (nI n), .int (nI ((adv tx n (adv tx n (adv tx n R))).1)), .int ((adv tx n (adv tx n (adv tx n R))).2.1), .int (nI ((adv tx n (adv tx n (adv tx n R))).2.2.1)), .int ((adv tx n (adv tx n (adv tx n R))).2.2.2)]), (r1, iA E 200 tx), (t0, oB 10 [.ref t1, .ref t2, .ref t3, .int (nI T.1), .int (nI T.2.1)]), (t1, iA E 6 T.2.2.1), (t2, iA E 6 T.2.2.2.1), (t3, iA E 7 (clA T.2.2.2.2 (((adv tx n R).2.2.2).toNatClampNeg) (((adv tx n (adv tx n R)).2.2.2).toNatClampNeg)))]) (st2 := [.int (bI ((adv tx n (adv tx n (adv tx n R))).2.1 = nI 59))]) [4, 5, 0, 1, 2, 3] rfl rfl rfl ?_
        exact g_zret C X (nar_bI _) dX7_readClash_50 (⟨by rw [hv], by rw [hv]⟩)
      · have hv := rC_n2 (T := T) cq1 (fun z => z.2 cq3)
        refine g_iconst C (nI 0) dX7_readClash_35 (by decide) ?_
        exact g_zret C X rfl dX7_readClash_36 (⟨by rw [hv], by rw [hv]⟩)
  · have hv := rC_n (T := T) cq1
    refine g_iconst C (nI 0) dX7_readClash_10 (by decide) ?_
    exact g_zret C X rfl dX7_readClash_11 (⟨by rw [hv], by rw [hv]⟩)

theorem rI_q {tx : Nat → Int32} {n b : Nat} {R : RS} {T : TS} (h : R.2.1 = nI 113) (hb : ¬ b = 0) : rI tx n b R T = rP tx n R T := by unfold rI; rw [if_neg (by rw [h]; decide), if_pos h, if_neg hb]
theorem rI_q0 {tx : Nat → Int32} {n b : Nat} {R : RS} {T : TS} (h : R.2.1 = nI 113) (hb : b = 0) : rI tx n b R T = (nI 0, R, T) := by unfold rI; rw [if_neg (by rw [h]; decide), if_pos h, if_pos hb]
theorem rI_p {tx : Nat → Int32} {n b : Nat} {R : RS} {T : TS} (h : R.2.1 = nI 112) (hb : T.1 < 6) : rI tx n b R T = rQ tx n R T := by unfold rI; rw [if_pos h, if_pos hb]
theorem rI_p0 {tx : Nat → Int32} {n b : Nat} {R : RS} {T : TS} (h : R.2.1 = nI 112) (hb : ¬ T.1 < 6) : rI tx n b R T = (nI 0, R, T) := by unfold rI; rw [if_pos h, if_neg hb]
theorem rI_x {tx : Nat → Int32} {n b : Nat} {R : RS} {T : TS} (h : R.2.1 = nI 120) : rI tx n b R T = rC tx n R T := by unfold rI; rw [if_neg (by rw [h]; decide), if_neg (by rw [h]; decide), if_pos h]
theorem rI_o {tx : Nat → Int32} {n b : Nat} {R : RS} {T : TS} (h1 : ¬ R.2.1 = nI 112) (h2 : ¬ R.2.1 = nI 113) (h3 : ¬ R.2.1 = nI 120) : rI tx n b R T = (nI 0, R, T) := by unfold rI; rw [if_neg h1, if_neg h2, if_neg h3]

set_option maxHeartbeats 4000000 in
set_option maxRecDepth 100000 in
theorem kX7_readItem (l : Launch) (E : EX) (r0 r1 n : Nat) (tx : Nat → Int32) (R : RS) (t0 t1 t2 t3 : Nat) (T : TS) (b : Nat) (hn : n ≤ 200) (hp : R.1 ≤ n) (hT : T.1 ≤ 6) (hb : b < 2) : M l E yX7_readItem wsX7_readItem { frames := 5, cells := 0, slots := 0, locals := 105 } 0 0 [.ref r0, .ref t0, .int (nI b)] [(r0, oB 7 [.ref r1, .int (nI n), .int (nI R.1), .int R.2.1, .int (nI R.2.2.1), .int R.2.2.2]), (r1, iA E 200 tx), (t0, oB 10 [.ref t1, .ref t2, .ref t3, .int (nI T.1), .int (nI T.2.1)]), (t1, iA E 6 T.2.2.1), (t2, iA E 6 T.2.2.2.1), (t3, iA E 7 T.2.2.2.2)] (is1 (some (.int ((rI tx n b R T).1))) [(r0, oB 7 [.ref r1, .int (nI n), .int (nI (((rI tx n b R T).2.1).1)), .int (((rI tx n b R T).2.1).2.1), .int (nI (((rI tx n b R T).2.1).2.2.1)), .int (((rI tx n b R T).2.1).2.2.2)]), (r1, iA E 200 tx), (t0, oB 10 [.ref t1, .ref t2, .ref t3, .int (nI (((rI tx n b R T).2.2).1)), .int (nI (((rI tx n b R T).2.2).2.1))]), (t1, iA E 6 (((rI tx n b R T).2.2).2.2.1)), (t2, iA E 6 (((rI tx n b R T).2.2).2.2.2.1)), (t3, iA E 7 (((rI tx n b R T).2.2).2.2.2.2))]) := by
  refine M.ofG (cc := cX7_readItem) (maxL := 3) (ret := (some .boolean)) (lv := [(0, .ref r0), (1, .ref t0), (2, .int (nI b))]) (own := RX7) (by decide) rfl rfl (Nat.le_of_ble_eq_true rfl) rfl ?_
  intro K C X _
  have i7 : ∀ w ∈ wsX70, w ∈ wsX7_readItem := by decide +kernel
  have i10 : ∀ w ∈ wsX100, w ∈ wsX7_readItem := by decide +kernel
  refine g_aload_n C dX7_readItem_0 rfl 0 rfl ?_
  refine g_get C i7 0 rfl rfl 3 (by decide) (List.mem_of_getElem? (i := 1) rfl) rfl rfl dX7_readItem_1 ?_
  by_cases cq1 : R.2.1 = nI 112
  · refine g_lookup C 58 dX7_readItem_4 (by decide) (off := 54) (by rw [cq1]; decide) (by decide) ?_
    have hk := cq1
    refine g_aload_n C dX7_readItem_58 rfl 1 rfl ?_
    refine g_get C i10 2 rfl rfl 3 (by decide) (List.mem_of_getElem? (i := 2) rfl) rfl rfl dX7_readItem_59 ?_
    refine g_bipush C (nI 6) dX7_readItem_62 (by decide) ?_
    refine g_icmp_geN C 79 dX7_readItem_64 (by decide) (by omega) (by omega) (fun cq2 => ?_) (fun cq2 => ?_)
    · have hv := rI_p0 (tx := tx) (n := n) (b := b) (T := T) hk (by omega)
      refine g_iconst C (nI 0) dX7_readItem_79 (by decide) ?_
      exact g_zret C X rfl dX7_readItem_80 (⟨by rw [hv]; try exact congrArg (fun z => some (Value.int z)) hv1, by rw [hv]⟩)
    · have hv := rI_p (tx := tx) (n := n) (b := b) (T := T) hk (by omega)
      refine g_aload_n C dX7_readItem_67 rfl 0 rfl ?_
      refine g_aload_n C dX7_readItem_68 rfl 1 rfl ?_
      refine g_callV C (rest := []) (n := 1) (kX7_readPerson l E r0 r1 n tx R t0 t1 t2 t3 T (by omega) (by omega) (by omega)) gX7_readItem_X7_readPerson rfl ⟨rfl, rfl⟩ (by decide) (Nat.le_of_ble_eq_true rfl) rfl (by decide +kernel) rfl dX7_readItem_69 0 rfl rfl [0, 1, 2, 3, 4, 5] [] rfl rfl ?_
      refine g_is1 (ws2 := [(r0, oB 7 [.ref r1, .int (nI n), .int (nI (((rQ tx n R T).2.1).1)), .int (((rQ tx n R T).2.1).2.1), .int (nI (((rQ tx n R T).2.1).2.2.1)), .int (((rQ tx n R T).2.1).2.2.2)]), (r1, iA E 200 tx), (t0, oB 10 [.ref t1, .ref t2, .ref t3, .int (nI (((rQ tx n R T).2.2).1)), .int (nI (((rQ tx n R T).2.2).2.1))]), (t1, iA E 6 (((rQ tx n R T).2.2).2.2.1)), (t2, iA E 6 (((rQ tx n R T).2.2).2.2.2.1)), (t3, iA E 7 (((rQ tx n R T).2.2).2.2.2.2))]) (st2 := [.int ((rQ tx n R T).1)]) [0, 1, 2, 3, 4, 5] rfl rfl rfl ?_
      refine g_if_eq C 79 dX7_readItem_72 (by decide) (fun cq3 => ?_) (fun cq3 => ?_)
      · have hv1 : nI 0 = _ := cq3.symm
        refine g_iconst C (nI 0) dX7_readItem_79 (by decide) ?_
        exact g_zret C X rfl dX7_readItem_80 (⟨by rw [hv]; try exact congrArg (fun z => some (Value.int z)) hv1, by rw [hv]⟩)
      · have hv1 := one_01 (rQ_01 tx n R T) cq3
        refine g_iconst C (nI 1) dX7_readItem_75 (by decide) ?_
        refine g_goto C 80 dX7_readItem_76 (by decide) ?_
        exact g_zret C X rfl dX7_readItem_80 (⟨by rw [hv]; try exact congrArg (fun z => some (Value.int z)) hv1, by rw [hv]⟩)
  by_cases cq4 : R.2.1 = nI 113
  · refine g_lookup C 40 dX7_readItem_4 (by decide) (off := 36) (by rw [cq4]; decide) (by decide) ?_
    have hk := cq4
    refine g_iload_n C dX7_readItem_40 rfl 2 rfl ?_
    refine g_if_eqN C 56 dX7_readItem_41 (by decide) (by omega) (fun cq5 => ?_) (fun cq5 => ?_)
    · have hv := rI_q0 (tx := tx) (n := n) (T := T) hk cq5
      refine g_iconst C (nI 0) dX7_readItem_56 (by decide) ?_
      exact g_zret C X rfl dX7_readItem_57 (⟨by rw [hv]; try exact congrArg (fun z => some (Value.int z)) hv1, by rw [hv]⟩)
    · have hv := rI_q (tx := tx) (n := n) (T := T) hk cq5
      refine g_aload_n C dX7_readItem_44 rfl 0 rfl ?_
      refine g_aload_n C dX7_readItem_45 rfl 1 rfl ?_
      refine g_callV C (rest := []) (n := 1) (kX7_readPillows l E r0 r1 n tx R t0 t1 t2 t3 T (by omega) (by omega)) gX7_readItem_X7_readPillows rfl ⟨rfl, rfl⟩ (by decide) (Nat.le_of_ble_eq_true rfl) rfl (by decide +kernel) rfl dX7_readItem_46 0 rfl rfl [0, 1, 2, 3, 4, 5] [] rfl rfl ?_
      refine g_is1 (ws2 := [(r0, oB 7 [.ref r1, .int (nI n), .int (nI (((rP tx n R T).2.1).1)), .int (((rP tx n R T).2.1).2.1), .int (nI (((rP tx n R T).2.1).2.2.1)), .int (((rP tx n R T).2.1).2.2.2)]), (r1, iA E 200 tx), (t0, oB 10 [.ref t1, .ref t2, .ref t3, .int (nI (((rP tx n R T).2.2).1)), .int (nI (((rP tx n R T).2.2).2.1))]), (t1, iA E 6 (((rP tx n R T).2.2).2.2.1)), (t2, iA E 6 (((rP tx n R T).2.2).2.2.2.1)), (t3, iA E 7 (((rP tx n R T).2.2).2.2.2.2))]) (st2 := [.int ((rP tx n R T).1)]) [0, 1, 2, 3, 4, 5] rfl rfl rfl ?_
      refine g_if_eq C 56 dX7_readItem_49 (by decide) (fun cq6 => ?_) (fun cq6 => ?_)
      · have hv1 : nI 0 = _ := cq6.symm
        refine g_iconst C (nI 0) dX7_readItem_56 (by decide) ?_
        exact g_zret C X rfl dX7_readItem_57 (⟨by rw [hv]; try exact congrArg (fun z => some (Value.int z)) hv1, by rw [hv]⟩)
      · have hv1 := one_01 (rP_01 tx n R T) cq6
        refine g_iconst C (nI 1) dX7_readItem_52 (by decide) ?_
        refine g_goto C 57 dX7_readItem_53 (by decide) ?_
        exact g_zret C X rfl dX7_readItem_57 (⟨by rw [hv]; try exact congrArg (fun z => some (Value.int z)) hv1, by rw [hv]⟩)
  by_cases cq7 : R.2.1 = nI 120
  · refine g_lookup C 81 dX7_readItem_4 (by decide) (off := 77) (by rw [cq7]; decide) (by decide) ?_
    have hv := rI_x (tx := tx) (n := n) (b := b) (T := T) cq7
    refine g_aload_n C dX7_readItem_81 rfl 0 rfl ?_
    refine g_aload_n C dX7_readItem_82 rfl 1 rfl ?_
    refine g_callV C (rest := []) (n := 1) (kX7_readClash l E r0 r1 n tx R t0 t1 t2 t3 T (by omega) (by omega)) gX7_readItem_X7_readClash rfl ⟨rfl, rfl⟩ (by decide) (Nat.le_of_ble_eq_true rfl) rfl (by decide +kernel) rfl dX7_readItem_83 0 rfl rfl [0, 1, 2, 3, 4, 5] [] rfl rfl ?_
    refine g_is1 (ws2 := [(r0, oB 7 [.ref r1, .int (nI n), .int (nI (((rC tx n R T).2.1).1)), .int (((rC tx n R T).2.1).2.1), .int (nI (((rC tx n R T).2.1).2.2.1)), .int (((rC tx n R T).2.1).2.2.2)]), (r1, iA E 200 tx), (t0, oB 10 [.ref t1, .ref t2, .ref t3, .int (nI (((rC tx n R T).2.2).1)), .int (nI (((rC tx n R T).2.2).2.1))]), (t1, iA E 6 (((rC tx n R T).2.2).2.2.1)), (t2, iA E 6 (((rC tx n R T).2.2).2.2.2.1)), (t3, iA E 7 (((rC tx n R T).2.2).2.2.2.2))]) (st2 := [.int ((rC tx n R T).1)]) [0, 1, 2, 3, 4, 5] rfl rfl rfl ?_
    exact g_zret C X (nar_01 (rC_01 tx n R T)) dX7_readItem_86 (⟨by rw [hv]; try exact congrArg (fun z => some (Value.int z)) hv1, by rw [hv]⟩)
  refine g_lookup C 87 dX7_readItem_4 (by decide) (off := 83) (by rw [lv_osw cq1 (by decide)]; rw [lv_osw cq4 (by decide)]; rw [lv_osw cq7 (by decide)]; rfl) (by decide) ?_
  have hv := rI_o (tx := tx) (n := n) (b := b) (T := T) cq1 cq4 cq7
  refine g_iconst C (nI 0) dX7_readItem_87 (by decide) ?_
  exact g_zret C X rfl dX7_readItem_88 (⟨by rw [hv]; try exact congrArg (fun z => some (Value.int z)) hv1, by rw [hv]⟩)

def rdA (tx : Nat → Int32) (n : Nat) (R : RS) (T : TS) : Int32 × RS × TS := rdL tx n 201 0 (adv tx n (0, R.2.1, R.2.2.1, R.2.2.2)) (0, 3, T.2.2.1, T.2.2.2.1, filA T.2.2.2.2 (nI 0) 7)
theorem rdL_end {tx : Nat → Int32} {n i : Nat} {Q : RS} {U : TS} (h : Q.2.1 = 0) : ∀ z : Nat, rdL tx n z i Q U = (nI i, Q, U)
  | 0 => rfl
  | z + 1 => by rw [rdL, if_pos h]
theorem rdL_no {tx : Nat → Int32} {n z i b : Nat} {Q : RS} {U : TS} (h0 : ¬ Q.2.1 = 0) (hb : (if i = 0 then 1 else 0) = b) (h : (rI tx n b Q U).1 = 0) : rdL tx n (z + 1) i Q U = ((-10) - nI (rI tx n b Q U).2.1.2.2.1, (rI tx n b Q U).2) := by
  subst hb; rw [rdL, if_neg h0, if_pos h]
theorem rdL_go {tx : Nat → Int32} {n z i b : Nat} {Q : RS} {U : TS} (h0 : ¬ Q.2.1 = 0) (hb : (if i = 0 then 1 else 0) = b) (h : ¬ (rI tx n b Q U).1 = 0) : rdL tx n (z + 1) i Q U = rdL tx n z (i + 1) (adv tx n (rI tx n b Q U).2.1) (rI tx n b Q U).2.2 := by
  subst hb; rw [rdL, if_neg h0, if_neg h]

set_option maxHeartbeats 4000000 in
set_option maxRecDepth 100000 in
theorem kX7_read (l : Launch) (E : EX) (r0 r1 n : Nat) (tx : Nat → Int32) (R : RS) (t0 t1 t2 t3 : Nat) (T : TS) (hn : n ≤ 200) : M l E yX7_read wsX7_read { frames := 6, cells := 0, slots := 0, locals := 127 } 0 0 [.ref r0, .ref t0] [(r0, oB 7 [.ref r1, .int (nI n), .int (nI R.1), .int R.2.1, .int (nI R.2.2.1), .int R.2.2.2]), (r1, iA E 200 tx), (t0, oB 10 [.ref t1, .ref t2, .ref t3, .int (nI T.1), .int (nI T.2.1)]), (t1, iA E 6 T.2.2.1), (t2, iA E 6 T.2.2.2.1), (t3, iA E 7 T.2.2.2.2)] (is1 (some (.int ((rdA tx n R T).1))) [(r0, oB 7 [.ref r1, .int (nI n), .int (nI (((rdA tx n R T).2.1).1)), .int (((rdA tx n R T).2.1).2.1), .int (nI (((rdA tx n R T).2.1).2.2.1)), .int (((rdA tx n R T).2.1).2.2.2)]), (r1, iA E 200 tx), (t0, oB 10 [.ref t1, .ref t2, .ref t3, .int (nI (((rdA tx n R T).2.2).1)), .int (nI (((rdA tx n R T).2.2).2.1))]), (t1, iA E 6 (((rdA tx n R T).2.2).2.2.1)), (t2, iA E 6 (((rdA tx n R T).2.2).2.2.2.1)), (t3, iA E 7 (((rdA tx n R T).2.2).2.2.2.2))]) := by
  refine M.ofG (cc := cX7_read) (maxL := 3) (ret := (some .int)) (lv := [(0, .ref r0), (1, .ref t0)]) (own := RX7) (by decide) rfl rfl (Nat.le_of_ble_eq_true rfl) rfl ?_
  intro K C X _
  have i7 : ∀ w ∈ wsX70, w ∈ wsX7_read := by decide +kernel
  refine g_aload_n C dX7_read_0 rfl 1 rfl ?_
  refine g_callV C (rest := []) (n := 0) (kX10_begin l E t0 t1 t2 t3 T.1 T.2.1 T.2.2.2.2 ) gX7_read_X10_begin rfl ⟨rfl, rfl⟩ (by decide) (Nat.le_of_ble_eq_true rfl) rfl (by decide +kernel) rfl dX7_read_1 0 rfl rfl [2, 5] [0, 1, 3, 4] rfl rfl ?_
  refine g_is1 (ws2 := [(r0, oB 7 [.ref r1, .int (nI n), .int (nI R.1), .int R.2.1, .int (nI R.2.2.1), .int R.2.2.2]), (r1, iA E 200 tx), (t0, oB 10 [.ref t1, .ref t2, .ref t3, .int (nI 0), .int (nI 3)]), (t1, iA E 6 T.2.2.1), (t2, iA E 6 T.2.2.2.1), (t3, iA E 7 (filA T.2.2.2.2 (nI 0) 7))]) (st2 := []) [0, 1, 4, 2, 3, 5] rfl rfl rfl ?_
  refine g_aload_n C dX7_read_4 rfl 0 rfl ?_
  refine g_iconst C (nI 0) dX7_read_5 (by decide) ?_
  refine g_put C i7 tyX7 tyX7_ok nmX7 0 rfl rfl 2 (by decide) (List.mem_of_getElem? (i := 1) rfl) rfl rfl rfl rfl rfl (Nat.le_of_ble_eq_true rfl) dX7_read_6 (ws' := [(r0, oB 7 [.ref r1, .int (nI n), .int (nI 0), .int R.2.1, .int (nI R.2.2.1), .int R.2.2.2]), (r1, iA E 200 tx), (t0, oB 10 [.ref t1, .ref t2, .ref t3, .int (nI 0), .int (nI 3)]), (t1, iA E 6 T.2.2.1), (t2, iA E 6 T.2.2.2.1), (t3, iA E 7 (filA T.2.2.2.2 (nI 0) 7))]) rfl ?_
  refine g_aload_n C dX7_read_9 rfl 0 rfl ?_
  refine g_callV C (rest := []) (n := 0) (kX7_advance l E r0 r1 n tx (0, R.2.1, R.2.2.1, R.2.2.2) (hn) (Nat.zero_le _)) gX7_read_X7_advance rfl ⟨rfl, rfl⟩ (by decide) (Nat.le_of_ble_eq_true rfl) rfl (by decide +kernel) rfl dX7_read_10 0 rfl rfl [0, 1] [2, 3, 4, 5] rfl rfl ?_
  refine g_is1 (ws2 := [(r0, oB 7 [.ref r1, .int (nI n), .int (nI ((adv tx n (0, R.2.1, R.2.2.1, R.2.2.2)).1)), .int ((adv tx n (0, R.2.1, R.2.2.1, R.2.2.2)).2.1), .int (nI ((adv tx n (0, R.2.1, R.2.2.1, R.2.2.2)).2.2.1)), .int ((adv tx n (0, R.2.1, R.2.2.1, R.2.2.2)).2.2.2)]), (r1, iA E 200 tx), (t0, oB 10 [.ref t1, .ref t2, .ref t3, .int (nI 0), .int (nI 3)]), (t1, iA E 6 T.2.2.1), (t2, iA E 6 T.2.2.2.1), (t3, iA E 7 (filA T.2.2.2.2 (nI 0) 7))]) (st2 := []) [4, 5, 0, 1, 2, 3] rfl rfl rfl ?_
  refine g_iconst C (nI 0) dX7_read_13 (by decide) ?_
  refine g_istore_n C (lv' := [(2, .int (nI 0)), (0, .ref r0), (1, .ref t0)]) dX7_read_14 rfl (by decide) rfl ?_
  have L15 : ∀ (zz k : Nat) (Q : RS) (U : TS), k + zz = 201 + 1 → k ≤ 201 → (rdL tx n (201 - k) k Q U = rdA tx n R T) → (Q.1 ≤ n) → (U.1 ≤ 6) → G K 0 0 15 [(0, .ref r0), (1, .ref t0), (2, .int (nI k))] [] [(r0, oB 7 [.ref r1, .int (nI n), .int (nI Q.1), .int Q.2.1, .int (nI Q.2.2.1), .int Q.2.2.2]), (r1, iA E 200 tx), (t0, oB 10 [.ref t1, .ref t2, .ref t3, .int (nI U.1), .int (nI U.2.1)]), (t1, iA E 6 U.2.2.1), (t2, iA E 6 U.2.2.2.1), (t3, iA E 7 U.2.2.2.2)] := by
    intro zz
    induction zz with
    | zero => intro k Q U hL15 gL15; exfalso; omega
    | succ zz ihL15 =>
      intro k Q U hL15 gL15 hr hq hU
      refine g_aload_n C dX7_read_15 rfl 0 rfl ?_
      refine g_get C i7 0 rfl rfl 3 (by decide) (List.mem_of_getElem? (i := 2) rfl) rfl rfl dX7_read_16 ?_
      refine g_if_eq C 64 dX7_read_19 (by decide) (fun cq1 => ?_) (fun cq1 => ?_)
      · have hv : rdA tx n R T = (nI k, Q, U) := by rw [← hr]; exact rdL_end cq1 _
        refine g_iload_n C dX7_read_64 rfl 2 rfl ?_
        exact g_iret C X dX7_read_65 (⟨by rw [hv], by rw [hv]⟩)
      · refine g_iload_n C dX7_read_22 rfl 2 rfl ?_
        refine g_sipush C (nI 200) dX7_read_23 (by decide) ?_
        refine g_icmp_gtN C 64 dX7_read_26 (by decide) (by omega) (by omega) (fun cq2 => ?_) (fun cq2 => ?_)
        · have hv : rdA tx n R T = (nI k, Q, U) := by rw [← hr, show 201 - k = 0 by omega, rdL]
          refine g_iload_n C dX7_read_64 rfl 2 rfl ?_
          exact g_iret C X dX7_read_65 (⟨by rw [hv], by rw [hv]⟩)
        · refine g_aload_n C dX7_read_29 rfl 0 rfl ?_
          refine g_aload_n C dX7_read_30 rfl 1 rfl ?_
          refine g_iload_n C dX7_read_31 rfl 2 rfl ?_
          refine g_if_neN C 39 dX7_read_32 (by decide) (by omega) (fun cq3 => ?_) (fun cq3 => ?_)
          · have hb : (if k = 0 then 1 else 0) = 0 := if_neg cq3
            refine g_iconst C (nI 0) dX7_read_39 (by decide) ?_
            refine g_callV C (rest := []) (n := 2) (kX7_readItem l E r0 r1 n tx Q t0 t1 t2 t3 U 0 (by omega) (by omega) (by omega) (by omega)) gX7_read_X7_readItem rfl ⟨rfl, rfl⟩ (by decide) (Nat.le_of_ble_eq_true rfl) rfl (by decide +kernel) rfl dX7_read_40 0 rfl rfl [0, 1, 2, 3, 4, 5] [] rfl rfl ?_
            refine g_is1 (ws2 := [(r0, oB 7 [.ref r1, .int (nI n), .int (nI (((rI tx n 0 Q U).2.1).1)), .int (((rI tx n 0 Q U).2.1).2.1), .int (nI (((rI tx n 0 Q U).2.1).2.2.1)), .int (((rI tx n 0 Q U).2.1).2.2.2)]), (r1, iA E 200 tx), (t0, oB 10 [.ref t1, .ref t2, .ref t3, .int (nI (((rI tx n 0 Q U).2.2).1)), .int (nI (((rI tx n 0 Q U).2.2).2.1))]), (t1, iA E 6 (((rI tx n 0 Q U).2.2).2.2.1)), (t2, iA E 6 (((rI tx n 0 Q U).2.2).2.2.2.1)), (t3, iA E 7 (((rI tx n 0 Q U).2.2).2.2.2.2))]) (st2 := [.int ((rI tx n 0 Q U).1)]) [0, 1, 2, 3, 4, 5] rfl rfl rfl ?_
            refine g_if_ne C 54 dX7_read_43 (by decide) (fun cq4 => ?_) (fun cq4 => ?_)
            · refine g_iincN C (lv' := [(2, .int (nI (k + 1))), (0, .ref r0), (1, .ref t0)]) dX7_read_54 2 rfl (by decide) rfl ?_
              refine g_aload_n C dX7_read_57 rfl 1 rfl ?_
              refine g_callV C (rest := []) (n := 0) (kX7_advance l E r0 r1 n tx ((rI tx n 0 Q U).2.1) (hn) ((rI_le hq hU).1)) gX7_read_X7_advance rfl ⟨rfl, rfl⟩ (by decide) (Nat.le_of_ble_eq_true rfl) rfl (by decide +kernel) rfl dX7_read_58 0 rfl rfl [0, 1] [2, 3, 4, 5] rfl rfl ?_
              refine g_is1 (ws2 := [(r0, oB 7 [.ref r1, .int (nI n), .int (nI ((adv tx n ((rI tx n 0 Q U).2.1)).1)), .int ((adv tx n ((rI tx n 0 Q U).2.1)).2.1), .int (nI ((adv tx n ((rI tx n 0 Q U).2.1)).2.2.1)), .int ((adv tx n ((rI tx n 0 Q U).2.1)).2.2.2)]), (r1, iA E 200 tx), (t0, oB 10 [.ref t1, .ref t2, .ref t3, .int (nI (((rI tx n 0 Q U).2.2).1)), .int (nI (((rI tx n 0 Q U).2.2).2.1))]), (t1, iA E 6 (((rI tx n 0 Q U).2.2).2.2.1)), (t2, iA E 6 (((rI tx n 0 Q U).2.2).2.2.2.1)), (t3, iA E 7 (((rI tx n 0 Q U).2.2).2.2.2.2))]) (st2 := []) [4, 5, 0, 1, 2, 3] rfl rfl rfl ?_
              refine g_goto C 15 dX7_read_61 (by decide) ?_
              refine g_sub (lv' := [(0, .ref r0), (1, .ref t0), (2, .int (nI (k + 1)))]) [1, 2, 0] rfl ?_
              exact ihL15 (k + 1) (adv tx n ((rI tx n 0 Q U).2.1)) ((rI tx n 0 Q U).2.2) (by omega) (by omega) (by rw [← hr, show 201 - k = (201 - (k + 1)) + 1 by omega]; exact (rdL_go cq1 hb cq4).symm) ((adv_le (rI_le hq hU).1).1) ((rI_le hq hU).2)
            · have hv := hr.symm.trans ((congrArg (fun z => rdL tx n z k Q U) (show 201 - k = (201 - (k + 1)) + 1 by omega)).trans (rdL_no cq1 hb cq4))
              refine g_bipush C ((-10)) dX7_read_46 (by decide) ?_
              refine g_aload_n C dX7_read_48 rfl 0 rfl ?_
              refine g_get C i7 0 rfl rfl 4 (by decide) (List.mem_of_getElem? (i := 3) rfl) rfl rfl dX7_read_49 ?_
              refine g_isub C dX7_read_52 ?_
              exact g_iret C X dX7_read_53 (⟨by rw [hv], by rw [hv]⟩)
          · have hb : (if k = 0 then 1 else 0) = 1 := if_pos cq3
            refine g_iconst C (nI 1) dX7_read_35 (by decide) ?_
            refine g_goto C 40 dX7_read_36 (by decide) ?_
            refine g_callV C (rest := []) (n := 2) (kX7_readItem l E r0 r1 n tx Q t0 t1 t2 t3 U 1 (by omega) (by omega) (by omega) (by omega)) gX7_read_X7_readItem rfl ⟨rfl, rfl⟩ (by decide) (Nat.le_of_ble_eq_true rfl) rfl (by decide +kernel) rfl dX7_read_40 0 rfl rfl [0, 1, 2, 3, 4, 5] [] rfl rfl ?_
            refine g_is1 (ws2 := [(r0, oB 7 [.ref r1, .int (nI n), .int (nI (((rI tx n 1 Q U).2.1).1)), .int (((rI tx n 1 Q U).2.1).2.1), .int (nI (((rI tx n 1 Q U).2.1).2.2.1)), .int (((rI tx n 1 Q U).2.1).2.2.2)]), (r1, iA E 200 tx), (t0, oB 10 [.ref t1, .ref t2, .ref t3, .int (nI (((rI tx n 1 Q U).2.2).1)), .int (nI (((rI tx n 1 Q U).2.2).2.1))]), (t1, iA E 6 (((rI tx n 1 Q U).2.2).2.2.1)), (t2, iA E 6 (((rI tx n 1 Q U).2.2).2.2.2.1)), (t3, iA E 7 (((rI tx n 1 Q U).2.2).2.2.2.2))]) (st2 := [.int ((rI tx n 1 Q U).1)]) [0, 1, 2, 3, 4, 5] rfl rfl rfl ?_
            refine g_if_ne C 54 dX7_read_43 (by decide) (fun cq5 => ?_) (fun cq5 => ?_)
            · refine g_iincN C (lv' := [(2, .int (nI (k + 1))), (0, .ref r0), (1, .ref t0)]) dX7_read_54 2 rfl (by decide) rfl ?_
              refine g_aload_n C dX7_read_57 rfl 1 rfl ?_
              refine g_callV C (rest := []) (n := 0) (kX7_advance l E r0 r1 n tx ((rI tx n 1 Q U).2.1) (hn) ((rI_le hq hU).1)) gX7_read_X7_advance rfl ⟨rfl, rfl⟩ (by decide) (Nat.le_of_ble_eq_true rfl) rfl (by decide +kernel) rfl dX7_read_58 0 rfl rfl [0, 1] [2, 3, 4, 5] rfl rfl ?_
              refine g_is1 (ws2 := [(r0, oB 7 [.ref r1, .int (nI n), .int (nI ((adv tx n ((rI tx n 1 Q U).2.1)).1)), .int ((adv tx n ((rI tx n 1 Q U).2.1)).2.1), .int (nI ((adv tx n ((rI tx n 1 Q U).2.1)).2.2.1)), .int ((adv tx n ((rI tx n 1 Q U).2.1)).2.2.2)]), (r1, iA E 200 tx), (t0, oB 10 [.ref t1, .ref t2, .ref t3, .int (nI (((rI tx n 1 Q U).2.2).1)), .int (nI (((rI tx n 1 Q U).2.2).2.1))]), (t1, iA E 6 (((rI tx n 1 Q U).2.2).2.2.1)), (t2, iA E 6 (((rI tx n 1 Q U).2.2).2.2.2.1)), (t3, iA E 7 (((rI tx n 1 Q U).2.2).2.2.2.2))]) (st2 := []) [4, 5, 0, 1, 2, 3] rfl rfl rfl ?_
              refine g_goto C 15 dX7_read_61 (by decide) ?_
              refine g_sub (lv' := [(0, .ref r0), (1, .ref t0), (2, .int (nI (k + 1)))]) [1, 2, 0] rfl ?_
              exact ihL15 (k + 1) (adv tx n ((rI tx n 1 Q U).2.1)) ((rI tx n 1 Q U).2.2) (by omega) (by omega) (by rw [← hr, show 201 - k = (201 - (k + 1)) + 1 by omega]; exact (rdL_go cq1 hb cq5).symm) ((adv_le (rI_le hq hU).1).1) ((rI_le hq hU).2)
            · have hv := hr.symm.trans ((congrArg (fun z => rdL tx n z k Q U) (show 201 - k = (201 - (k + 1)) + 1 by omega)).trans (rdL_no cq1 hb cq5))
              refine g_bipush C ((-10)) dX7_read_46 (by decide) ?_
              refine g_aload_n C dX7_read_48 rfl 0 rfl ?_
              refine g_get C i7 0 rfl rfl 4 (by decide) (List.mem_of_getElem? (i := 3) rfl) rfl rfl dX7_read_49 ?_
              refine g_isub C dX7_read_52 ?_
              exact g_iret C X dX7_read_53 (⟨by rw [hv], by rw [hv]⟩)
  refine g_sub (lv' := [(0, .ref r0), (1, .ref t0), (2, .int (nI 0))]) [1, 2, 0] rfl ?_
  exact L15 (201 + 1 - 0) 0 (adv tx n (0, R.2.1, R.2.2.1, R.2.2.2)) (0, 3, T.2.2.1, T.2.2.2.1, filA T.2.2.2.2 (nI 0) 7) (by omega) (by omega) (rfl) ((adv_le (Nat.zero_le _)).1) (Nat.zero_le _)
