/-! the reference: the court read anew -/
def plnS (rd : Nat → Int32) : Nat → Int32 := upd (filA rd (nI 0) 21) 1 (nI 3)
def clR (rd : Nat → Int32) (a b : Nat) : Nat → Int32 := upd (upd rd (14 + a) (rd (14 + a) ||| nI (2 ^ b))) (14 + b) (upd rd (14 + a) (rd (14 + a) ||| nI (2 ^ b)) (14 + b) ||| nI (2 ^ a))
abbrev MS : Type := Int32 × RS × (Nat → Int32)
def mC (tx : Nat → Int32) (n : Nat) (Q : RS) (rd : Nat → Int32) : MS :=
  if nOk2 (rdv tx n Q) 0 6 then
    (if nOk2 (rdv tx n (rdv tx n Q)) 0 6 ∧ ¬ (rdv tx n (rdv tx n Q)).2.2.2 = (rdv tx n Q).2.2.2 then (bI ((rdv tx n (rdv tx n (rdv tx n Q))).2.1 = nI 3), rdv tx n (rdv tx n (rdv tx n Q)), clR rd (rdv tx n Q).2.2.2.toNatClampNeg (rdv tx n (rdv tx n Q)).2.2.2.toNatClampNeg)
     else (nI 0, rdv tx n (rdv tx n Q), rd))
  else (nI 0, rdv tx n Q, rd)
theorem mC_y {tx : Nat → Int32} {n : Nat} {Q : RS} {rd : Nat → Int32} (h : nOk2 (rdv tx n Q) 0 6) (h2 : nOk2 (rdv tx n (rdv tx n Q)) 0 6) (h3 : ¬ (rdv tx n (rdv tx n Q)).2.2.2 = (rdv tx n Q).2.2.2) : mC tx n Q rd = (bI ((rdv tx n (rdv tx n (rdv tx n Q))).2.1 = nI 3), rdv tx n (rdv tx n (rdv tx n Q)), clR rd (rdv tx n Q).2.2.2.toNatClampNeg (rdv tx n (rdv tx n Q)).2.2.2.toNatClampNeg) := by unfold mC; rw [if_pos h, if_pos ⟨h2, h3⟩]
theorem mC_n2 {tx : Nat → Int32} {n : Nat} {Q : RS} {rd : Nat → Int32} (h : nOk2 (rdv tx n Q) 0 6) (h2 : ¬ (nOk2 (rdv tx n (rdv tx n Q)) 0 6 ∧ ¬ (rdv tx n (rdv tx n Q)).2.2.2 = (rdv tx n Q).2.2.2)) : mC tx n Q rd = (nI 0, rdv tx n (rdv tx n Q), rd) := by unfold mC; rw [if_pos h, if_neg h2]
theorem mC_n {tx : Nat → Int32} {n : Nat} {Q : RS} {rd : Nat → Int32} (h : ¬ nOk2 (rdv tx n Q) 0 6) : mC tx n Q rd = (nI 0, rdv tx n Q, rd) := if_neg h
theorem nOk2_j {R : RS} {lo hi : Nat} (hl : lo < 2 ^ 31) (hh : hi < 2 ^ 31) (h : nOk2 R lo hi) : R.2.2.2 = nI R.2.2.2.toNatClampNeg ∧ lo ≤ R.2.2.2.toNatClampNeg ∧ R.2.2.2.toNatClampNeg ≤ hi :=
  nOk_j (R := (R.1, nI 1, R.2.2)) hl hh ⟨rfl, h.2⟩
abbrev npR (rd : Nat → Int32) : Nat := (rd 0).toNatClampNeg
def perR (rd : Nat → Int32) (a b : Int32) : Nat → Int32 := upd (upd (upd rd (2 + 2 * npR rd) a) (2 + 2 * npR rd + 1) b) 0 (upd (upd rd (2 + 2 * npR rd) a) (2 + 2 * npR rd + 1) b 0 + nI 1)
def mQ (tx : Nat → Int32) (n : Nat) (Q : RS) (rd : Nat → Int32) : MS :=
  if nOk2 (rdv tx n Q) 0 127 then
    (if nOk2 (rdv tx n (rdv tx n Q)) 0 10 then (bI ((rdv tx n (rdv tx n (rdv tx n Q))).2.1 = nI 3), rdv tx n (rdv tx n (rdv tx n Q)), perR rd (rdv tx n Q).2.2.2 (rdv tx n (rdv tx n Q)).2.2.2)
     else (nI 0, rdv tx n (rdv tx n Q), upd rd (2 + 2 * npR rd) (rdv tx n Q).2.2.2))
  else (nI 0, rdv tx n Q, rd)
def mP (tx : Nat → Int32) (n : Nat) (Q : RS) (rd : Nat → Int32) : MS :=
  if nOk2 (rdv tx n Q) 1 6 then (bI ((rdv tx n (rdv tx n Q)).2.1 = nI 3), rdv tx n (rdv tx n Q), upd rd 1 (rdv tx n Q).2.2.2) else (nI 0, rdv tx n Q, rd)
def mI (tx : Nat → Int32) (n i : Nat) (Q : RS) (rd : Nat → Int32) : MS :=
  if Q.2.1 = nI 1 then (if Q.2.2.2 = nI 113 then (if 0 < i then (nI 0, Q, rd) else mP tx n Q rd) else if Q.2.2.2 = nI 120 then mC tx n Q rd else if npR rd = 6 then (nI 0, Q, rd) else mQ tx n Q rd) else (nI 0, Q, rd)
def mL (tx : Nat → Int32) (n : Nat) : Nat → Nat → RS → (Nat → Int32) → Bool × MS
  | 0, i, Q, rd => (true, nI i, Q, rd)
  | z + 1, i, Q, rd => if Q.2.1 = 0 then (true, nI i, Q, rd) else
      if (mI tx n i Q rd).1 = 0 then (false, (-10) - nI (mI tx n i Q rd).2.1.2.2.1, (mI tx n i Q rd).2)
      else mL tx n z (i + 1) (rdv tx n (mI tx n i Q rd).2.1) (mI tx n i Q rd).2.2
def mA (tx : Nat → Int32) (n : Nat) (Q : RS) (rd : Nat → Int32) : Bool × MS := mL tx n 201 0 (rdv tx n (0, Q.2.1, Q.2.2.1, Q.2.2.2)) (plnS rd)
theorem mL_end {tx : Nat → Int32} {n i : Nat} {Q : RS} {rd : Nat → Int32} (h : Q.2.1 = 0) : ∀ z : Nat, mL tx n z i Q rd = (true, nI i, Q, rd)
  | 0 => rfl
  | z + 1 => by rw [mL, if_pos h]
theorem mL_no {tx : Nat → Int32} {n z i : Nat} {Q : RS} {rd : Nat → Int32} (h0 : ¬ Q.2.1 = 0) (h : (mI tx n i Q rd).1 = 0) : mL tx n (z + 1) i Q rd = (false, (-10) - nI (mI tx n i Q rd).2.1.2.2.1, (mI tx n i Q rd).2) := by
  rw [mL, if_neg h0, if_pos h]
theorem mL_go {tx : Nat → Int32} {n z i : Nat} {Q : RS} {rd : Nat → Int32} (h0 : ¬ Q.2.1 = 0) (h : ¬ (mI tx n i Q rd).1 = 0) : mL tx n (z + 1) i Q rd = mL tx n z (i + 1) (rdv tx n (mI tx n i Q rd).2.1) (mI tx n i Q rd).2.2 := by
  rw [mL, if_neg h0, if_neg h]
theorem mC_01 (tx : Nat → Int32) (n : Nat) (Q : RS) (rd : Nat → Int32) : (mC tx n Q rd).1 = nI 0 ∨ (mC tx n Q rd).1 = nI 1 := by
  unfold mC; split
  · split
    · exact bI_01 _
    · exact Or.inl rfl
  · exact Or.inl rfl
theorem rdv_tk {tx : Nat → Int32} {n : Nat} {Q : RS} (h : Q.1 ≤ n) (h2 : (rdv tx n Q).2.1 = nI 3) : Q.1 < (rdv tx n Q).1 := by
  have h1 := skp_le tx (n - Q.1) Q.1
  obtain ⟨w, hw⟩ : ∃ w, skp tx (n - Q.1) Q.1 = w := ⟨_, rfl⟩
  rw [hw] at h1
  by_cases h3 : w < n
  · by_cases h4 : dig (tx w)
    · rw [rdv_num hw h3 h4] at h2
      exact absurd h2 (show ¬ numR tx w (scn tx (n - w) w (nI 0)) = nI 3 by unfold numR; split <;> decide)
    · rw [rdv_tok hw h3 h4]; dsimp only; omega
  · rw [rdv_end hw h3] at h2
    exact absurd h2 (show ¬ nI 0 = nI 3 by decide)
theorem bI_ne {c : Prop} [Decidable c] (h : ¬ bI c = 0) : c := Decidable.not_not.mp (fun z => h (bI_0.mpr z))
theorem np_keep {rd g : Nat → Int32} (h : g 0 = rd 0) (h0 : rd 0 = nI (npR rd)) (h6 : npR rd ≤ 6) : g 0 = nI (npR g) ∧ npR g ≤ 6 := by
  unfold npR at *
  rw [h]; exact ⟨h0, h6⟩
theorem np_set {g : Nat → Int32} {k : Nat} (h : g 0 = nI k) (hk : k ≤ 6) : g 0 = nI (npR g) ∧ npR g ≤ 6 := by
  unfold npR
  rw [h, nI_clamp (by omega)]; exact ⟨rfl, hk⟩
theorem pln_np (rd : Nat → Int32) : plnS rd 0 = nI (npR (plnS rd)) ∧ npR (plnS rd) ≤ 6 :=
  np_set (k := 0) (by unfold plnS; rw [pk_un (by decide)]; exact if_pos (by decide)) (by decide)
abbrev plR (rd : Nat → Int32) : Nat := (rd 1).toNatClampNeg
theorem pln_pl (rd : Nat → Int32) : plnS rd 1 = nI (plR (plnS rd)) ∧ plR (plnS rd) ≤ 6 := by
  have e : plnS rd 1 = nI 3 := pk_us
  unfold plR
  rw [e, nI_clamp (by decide)]
  exact ⟨rfl, by decide⟩
theorem mI_pl {tx : Nat → Int32} {n i : Nat} {Q : RS} {rd : Nat → Int32} (h0 : rd 1 = nI (plR rd)) (h6 : plR rd ≤ 6) (hs : ¬ (mI tx n i Q rd).1 = 0) : (mI tx n i Q rd).2.2 1 = nI (plR (mI tx n i Q rd).2.2) ∧ plR (mI tx n i Q rd).2.2 ≤ 6 := by
  have kp : ∀ g : Nat → Int32, g 1 = rd 1 → g 1 = nI (plR g) ∧ plR g ≤ 6 := fun g h => by unfold plR at *; rw [h]; exact ⟨h0, h6⟩
  have z0 : ∀ {c : Prop}, ¬ nI 0 = 0 → c := fun z => absurd rfl z
  unfold mI at hs ⊢
  split at hs
  · split at hs
    · split at hs
      · exact z0 hs
      · unfold mP at hs ⊢
        split at hs
        · rename_i e1 e2 e3 e4
          rw [if_pos e1, if_pos e2, if_neg e3, if_pos e4]
          have hj := nOk2_j (by decide) (by decide) e4
          show upd rd 1 (rdv tx n Q).2.2.2 1 = nI (upd rd 1 (rdv tx n Q).2.2.2 1).toNatClampNeg ∧ (upd rd 1 (rdv tx n Q).2.2.2 1).toNatClampNeg ≤ 6
          rw [pk_us]
          exact ⟨hj.1, hj.2.2⟩
        · exact z0 hs
    · split at hs
      · unfold mC at hs ⊢
        split at hs
        · split at hs
          · rename_i e1 e2 e3 e4 e5
            rw [if_pos e1, if_neg e2, if_pos e3, if_pos e4, if_pos e5]
            exact kp _ (by show clR rd _ _ 1 = rd 1; unfold clR; rw [pk_un (by omega), pk_un (by omega)])
          · exact z0 hs
        · exact z0 hs
      · split at hs
        · exact z0 hs
        · unfold mQ at hs ⊢
          split at hs
          · split at hs
            · rename_i e1 e2 e3 e4 e5 e6
              rw [if_pos e1, if_neg e2, if_neg e3, if_neg e4, if_pos e5, if_pos e6]
              exact kp _ (by show perR rd _ _ 1 = rd 1; unfold perR; rw [pk_un (by omega), pk_un (by omega), pk_un (by omega)])
            · exact z0 hs
          · exact z0 hs
  · exact z0 hs
/-- an item that is read: the place goes on, and the number of people stays in range -/
theorem mI_ok {tx : Nat → Int32} {n i : Nat} {Q : RS} {rd : Nat → Int32} (h : Q.1 ≤ n) (h0 : rd 0 = nI (npR rd)) (h6 : npR rd ≤ 6) (hs : ¬ (mI tx n i Q rd).1 = 0) : Q.1 < (mI tx n i Q rd).2.1.1 ∧ (mI tx n i Q rd).2.1.1 ≤ n ∧ (mI tx n i Q rd).2.2 0 = nI (npR (mI tx n i Q rd).2.2) ∧ npR (mI tx n i Q rd).2.2 ≤ 6 := by
  have a1 := rdv_le (tx := tx) h
  have a2 := rdv_le (tx := tx) a1.1
  have a3 := rdv_le (tx := tx) a2.1
  have z0 : ∀ {c : Prop}, ¬ nI 0 = 0 → c := fun z => absurd rfl z
  unfold mI at hs ⊢
  split at hs
  · split at hs
    · split at hs
      · exact z0 hs
      · unfold mP at hs ⊢
        split at hs
        · rename_i e1 e2 e3 e4
          rw [if_pos e1, if_pos e2, if_neg e3, if_pos e4]
          have := rdv_tk a1.1 (bI_ne hs)
          exact ⟨by dsimp only; omega, a2.1, np_keep (show upd rd 1 (rdv tx n Q).2.2.2 0 = rd 0 from pk_un (by decide)) h0 h6⟩
        · exact z0 hs
    · split at hs
      · unfold mC at hs ⊢
        split at hs
        · split at hs
          · rename_i e1 e2 e3 e4 e5
            rw [if_pos e1, if_neg e2, if_pos e3, if_pos e4, if_pos e5]
            have := rdv_tk a2.1 (bI_ne hs)
            have e0 : ∀ a b, clR rd a b 0 = rd 0 := fun a b => by unfold clR; rw [pk_un (by omega), pk_un (by omega)]
            exact ⟨by dsimp only; omega, a3.1, np_keep (e0 _ _) h0 h6⟩
          · exact z0 hs
        · exact z0 hs
      · split at hs
        · exact z0 hs
        · unfold mQ at hs ⊢
          split at hs
          · split at hs
            · rename_i e1 e2 e3 e4 e5 e6
              rw [if_pos e1, if_neg e2, if_neg e3, if_neg e4, if_pos e5, if_pos e6]
              have := rdv_tk a2.1 (bI_ne hs)
              have e0 : ∀ a b, perR rd a b 0 = nI (npR rd + 1) := fun a b => by unfold perR; rw [pk_us, pk_un (by omega), pk_un (by omega), h0]; exact nI_add _ _
              exact ⟨by dsimp only; omega, a3.1, np_set (e0 _ _) (by omega)⟩
            · exact z0 hs
          · exact z0 hs
  · exact z0 hs

set_option maxHeartbeats 4000000 in
set_option maxRecDepth 100000 in
theorem kX12_plain (l : Launch) (E : EX) (m0 x0 x1 x2 x3 x4 x5 x6 x7 x8 x9 n und nt : Nat) (tr : Int64) (Q : RS) (rd : Nat → Int32)  : M l E yX12_plain wsX12_plain { frames := 0, cells := 0, slots := 0, locals := 0 } 0 0 [.ref m0] [(m0, oB 12 [.ref x0, .int (nI n), .int (nI Q.1), .int (nI Q.2.2.1), .int Q.2.1, .int Q.2.2.2, .ref x1, .ref x2, .ref x3, .ref x4, .int (nI und), .ref x5, .ref x6, .int (nI nt), .ref x7, .ref x8, .long tr, .ref x9]), (x1, iA E 21 rd)] (is1 none [(m0, oB 12 [.ref x0, .int (nI n), .int (nI Q.1), .int (nI Q.2.2.1), .int Q.2.1, .int Q.2.2.2, .ref x1, .ref x2, .ref x3, .ref x4, .int (nI und), .ref x5, .ref x6, .int (nI nt), .ref x7, .ref x8, .long tr, .ref x9]), (x1, iA E 21 (plnS rd))]) := by
  refine M.ofG (cc := cX12_plain) (maxL := 2) (ret := none) (lv := [(0, .ref m0)]) (own := RX12) (by decide) rfl rfl (Nat.le_of_ble_eq_true rfl) rfl ?_
  intro K C X _
  have i12 : ∀ w ∈ wsX120, w ∈ wsX12_plain := by decide +kernel
  refine g_iconst C (nI 0) dX12_plain_0 (by decide) ?_
  refine g_istore_n C (lv' := [(1, .int (nI 0)), (0, .ref m0)]) dX12_plain_1 rfl (by decide) rfl ?_
  have L2 : ∀ (zz k : Nat) (u : Nat → Int32), k + zz = 21 + 1 → k ≤ 21 → (u = filA rd (nI 0) k) → G K 0 0 2 [(0, .ref m0), (1, .int (nI k))] [] [(m0, oB 12 [.ref x0, .int (nI n), .int (nI Q.1), .int (nI Q.2.2.1), .int Q.2.1, .int Q.2.2.2, .ref x1, .ref x2, .ref x3, .ref x4, .int (nI und), .ref x5, .ref x6, .int (nI nt), .ref x7, .ref x8, .long tr, .ref x9]), (x1, iA E 21 u)] := by
    intro zz
    induction zz with
    | zero => intro k u hL2 gL2; exfalso; omega
    | succ zz ihL2 =>
      intro k u hL2 gL2 hu
      refine g_iload_n C dX12_plain_2 rfl 1 rfl ?_
      refine g_bipush C (nI 21) dX12_plain_3 (by decide) ?_
      refine g_icmp_geN C 21 dX12_plain_5 (by decide) (by omega) (by omega) (fun cq1 => ?_) (fun cq1 => ?_)
      · have hk : k = 21 := by omega
        refine g_aload_n C dX12_plain_21 rfl 0 rfl ?_
        refine g_get C i12 0 rfl rfl 6 (by decide) (List.mem_of_getElem? (i := 1) rfl) rfl rfl dX12_plain_22 ?_
        refine g_iconst C (nI 1) dX12_plain_25 (by decide) ?_
        refine g_iconst C (nI 3) dX12_plain_26 (by decide) ?_
        refine g_iast C (ws' := fun fq2 => [(m0, oB 12 [.ref x0, .int (nI n), .int (nI Q.1), .int (nI Q.2.2.1), .int Q.2.1, .int Q.2.2.2, .ref x1, .ref x2, .ref x3, .ref x4, .int (nI und), .ref x5, .ref x6, .int (nI nt), .ref x7, .ref x8, .long tr, .ref x9]), (x1, iA E 21 fq2)]) 1 rfl (by omega) (by decide) dX12_plain_27 (fun _ _ => rfl) (fun fq2 efq2 => ?_)
        exact g_vret C X dX12_plain_28 (⟨rfl, by rw [efq2, hu, hk, plnS]⟩)
      · refine g_aload_n C dX12_plain_8 rfl 0 rfl ?_
        refine g_get C i12 0 rfl rfl 6 (by decide) (List.mem_of_getElem? (i := 1) rfl) rfl rfl dX12_plain_9 ?_
        refine g_iload_n C dX12_plain_12 rfl 1 rfl ?_
        refine g_iconst C (nI 0) dX12_plain_13 (by decide) ?_
        refine g_iast C (ws' := fun fq3 => [(m0, oB 12 [.ref x0, .int (nI n), .int (nI Q.1), .int (nI Q.2.2.1), .int Q.2.1, .int Q.2.2.2, .ref x1, .ref x2, .ref x3, .ref x4, .int (nI und), .ref x5, .ref x6, .int (nI nt), .ref x7, .ref x8, .long tr, .ref x9]), (x1, iA E 21 fq3)]) 1 rfl (by omega) (by decide) dX12_plain_14 (fun _ _ => rfl) (fun fq3 efq3 => ?_)
        refine g_iincN C (lv' := [(1, .int (nI (k + 1))), (0, .ref m0)]) dX12_plain_15 1 rfl (by decide) rfl ?_
        refine g_goto C 2 dX12_plain_18 (by decide) ?_
        refine g_sub (lv' := [(0, .ref m0), (1, .int (nI (k + 1)))]) [1, 0] rfl ?_
        exact ihL2 (k + 1) fq3 (by omega) (by omega) (by rw [efq3, hu, filA_s])
  refine g_sub (lv' := [(0, .ref m0), (1, .int (nI 0))]) [1, 0] rfl ?_
  exact L2 (21 + 1 - 0) 0 rd (by omega) (by omega) ((filA_0 rd (nI 0)).symm)

set_option maxHeartbeats 4000000 in
set_option maxRecDepth 100000 in
theorem kX12_readClash (l : Launch) (E : EX) (m0 x0 x1 x2 x3 x4 x5 x6 x7 x8 x9 n und nt : Nat) (tr : Int64) (Q : RS) (tx rd : Nat → Int32) (hn : n ≤ 200) (hp : Q.1 ≤ n) : M l E yX12_readClash wsX12_readClash { frames := 4, cells := 0, slots := 0, locals := 87 } 0 0 [.ref m0] [(m0, oB 12 [.ref x0, .int (nI n), .int (nI Q.1), .int (nI Q.2.2.1), .int Q.2.1, .int Q.2.2.2, .ref x1, .ref x2, .ref x3, .ref x4, .int (nI und), .ref x5, .ref x6, .int (nI nt), .ref x7, .ref x8, .long tr, .ref x9]), (x0, iA E 200 tx), (x1, iA E 21 rd)] (is1 (some (.int ((mC tx n Q rd).1))) [(m0, oB 12 [.ref x0, .int (nI n), .int (nI (((mC tx n Q rd).2.1).1)), .int (nI (((mC tx n Q rd).2.1).2.2.1)), .int (((mC tx n Q rd).2.1).2.1), .int (((mC tx n Q rd).2.1).2.2.2), .ref x1, .ref x2, .ref x3, .ref x4, .int (nI und), .ref x5, .ref x6, .int (nI nt), .ref x7, .ref x8, .long tr, .ref x9]), (x0, iA E 200 tx), (x1, iA E 21 ((mC tx n Q rd).2.2))]) := by
  refine M.ofG (cc := cX12_readClash) (maxL := 2) (ret := (some .boolean)) (lv := [(0, .ref m0)]) (own := RX12) (by decide) rfl rfl (Nat.le_of_ble_eq_true rfl) rfl ?_
  intro K C X _
  have i12 : ∀ w ∈ wsX120, w ∈ wsX12_readClash := by decide +kernel
  refine g_aload_n C dX12_readClash_0 rfl 0 rfl ?_
  refine g_iconst C (nI 0) dX12_readClash_1 (by decide) ?_
  refine g_bipush C (nI 6) dX12_readClash_2 (by decide) ?_
  refine g_callV C (rest := []) (n := 2) (kX12_number l E m0 x0 x1 x2 x3 x4 x5 x6 x7 x8 x9 n und nt tr Q tx 0 6 (by omega) (by omega)) gX12_readClash_X12_number rfl ⟨rfl, rfl⟩ (by decide) (Nat.le_of_ble_eq_true rfl) rfl (by decide +kernel) rfl dX12_readClash_4 0 rfl rfl [0, 1] [2] rfl rfl ?_
  refine g_is1 (ws2 := [(m0, oB 12 [.ref x0, .int (nI n), .int (nI ((rdv tx n Q).1)), .int (nI ((rdv tx n Q).2.2.1)), .int ((rdv tx n Q).2.1), .int ((rdv tx n Q).2.2.2), .ref x1, .ref x2, .ref x3, .ref x4, .int (nI und), .ref x5, .ref x6, .int (nI nt), .ref x7, .ref x8, .long tr, .ref x9]), (x0, iA E 200 tx), (x1, iA E 21 rd)]) (st2 := [.int (bI (nOk2 (rdv tx n Q) 0 6))]) [1, 2, 0] rfl rfl rfl ?_
  refine g_if_neB C 12 dX12_readClash_7 (by decide) (fun cq1 => ?_) (fun cq1 => ?_)
  · have hj := nOk2_j (by decide) (by decide) cq1
    refine g_aload_n C dX12_readClash_12 rfl 0 rfl ?_
    refine g_get C i12 0 rfl rfl 5 (by decide) (List.mem_of_getElem? (i := 1) rfl) rfl rfl dX12_readClash_13 ?_
    refine g_istore_n C (lv' := [(1, .int ((rdv tx n Q).2.2.2)), (0, .ref m0)]) dX12_readClash_16 rfl (by decide) rfl ?_
    refine g_aload_n C dX12_readClash_17 rfl 1 rfl ?_
    refine g_iconst C (nI 0) dX12_readClash_18 (by decide) ?_
    refine g_bipush C (nI 6) dX12_readClash_19 (by decide) ?_
    refine g_callV C (rest := []) (n := 2) (kX12_number l E m0 x0 x1 x2 x3 x4 x5 x6 x7 x8 x9 n und nt tr (rdv tx n Q) tx 0 6 (hn) ((rdv_le hp).1)) gX12_readClash_X12_number rfl ⟨rfl, rfl⟩ (by decide) (Nat.le_of_ble_eq_true rfl) rfl (by decide +kernel) rfl dX12_readClash_21 0 rfl rfl [0, 1] [2] rfl rfl ?_
    refine g_is1 (ws2 := [(m0, oB 12 [.ref x0, .int (nI n), .int (nI ((rdv tx n (rdv tx n Q)).1)), .int (nI ((rdv tx n (rdv tx n Q)).2.2.1)), .int ((rdv tx n (rdv tx n Q)).2.1), .int ((rdv tx n (rdv tx n Q)).2.2.2), .ref x1, .ref x2, .ref x3, .ref x4, .int (nI und), .ref x5, .ref x6, .int (nI nt), .ref x7, .ref x8, .long tr, .ref x9]), (x0, iA E 200 tx), (x1, iA E 21 rd)]) (st2 := [.int (bI (nOk2 (rdv tx n (rdv tx n Q)) 0 6))]) [1, 2, 0] rfl rfl rfl ?_
    refine g_if_eqB C 35 dX12_readClash_24 (by decide) (fun cq2 => ?_) (fun cq2 => ?_)
    · have hv := mC_n2 (rd := rd) cq1 (fun z => cq2 z.1)
      refine g_iconst C (nI 0) dX12_readClash_35 (by decide) ?_
      exact g_zret C X rfl dX12_readClash_36 (⟨by rw [hv], by first | (rw [hv]; done) | (rw [hv, clR]; done)⟩)
    · have hj2 := nOk2_j (by decide) (by decide) cq2
      refine g_aload_n C dX12_readClash_27 rfl 1 rfl ?_
      refine g_get C i12 0 rfl rfl 5 (by decide) (List.mem_of_getElem? (i := 1) rfl) rfl rfl dX12_readClash_28 ?_
      refine g_iload_n C dX12_readClash_31 rfl 0 rfl ?_
      refine g_icmp_ne C 37 dX12_readClash_32 (by decide) (fun cq3 => ?_) (fun cq3 => ?_)
      · have hv := mC_y (rd := rd) cq1 cq2 cq3
        refine g_aload_n C dX12_readClash_37 rfl 1 rfl ?_
        refine g_get C i12 0 rfl rfl 6 (by decide) (List.mem_of_getElem? (i := 2) rfl) rfl rfl dX12_readClash_38 ?_
        refine g_bipush C (nI 14) dX12_readClash_41 (by decide) ?_
        refine g_iload_n C dX12_readClash_43 rfl 0 rfl ?_
        refine g_as hj.1 ?_
        refine g_iaddN C dX12_readClash_44 ?_
        refine g_dup2 C dX12_readClash_45 rfl rfl ?_
        refine g_iald C 2 rfl (by omega) (by decide) dX12_readClash_46 ?_
        refine g_iconst C (nI 1) dX12_readClash_47 (by decide) ?_
        refine g_aload_n C dX12_readClash_48 rfl 1 rfl ?_
        refine g_get C i12 0 rfl rfl 5 (by decide) (List.mem_of_getElem? (i := 1) rfl) rfl rfl dX12_readClash_49 ?_
        refine g_as hj2.1 ?_
        refine g_ishl1 C dX12_readClash_52 (by omega) ?_
        refine g_ior C dX12_readClash_53 ?_
        refine g_iast C (ws' := fun fq4 => [(m0, oB 12 [.ref x0, .int (nI n), .int (nI ((rdv tx n (rdv tx n Q)).1)), .int (nI ((rdv tx n (rdv tx n Q)).2.2.1)), .int ((rdv tx n (rdv tx n Q)).2.1), .int ((rdv tx n (rdv tx n Q)).2.2.2), .ref x1, .ref x2, .ref x3, .ref x4, .int (nI und), .ref x5, .ref x6, .int (nI nt), .ref x7, .ref x8, .long tr, .ref x9]), (x0, iA E 200 tx), (x1, iA E 21 fq4)]) 2 rfl (by omega) (by decide) dX12_readClash_54 (fun _ _ => rfl) (fun fq4 efq4 => ?_)
        refine g_aload_n C dX12_readClash_55 rfl 1 rfl ?_
        refine g_get C i12 0 rfl rfl 6 (by decide) (List.mem_of_getElem? (i := 2) rfl) rfl rfl dX12_readClash_56 ?_
        refine g_bipush C (nI 14) dX12_readClash_59 (by decide) ?_
        refine g_aload_n C dX12_readClash_61 rfl 1 rfl ?_
        refine g_get C i12 0 rfl rfl 5 (by decide) (List.mem_of_getElem? (i := 1) rfl) rfl rfl dX12_readClash_62 ?_
        refine g_as hj2.1 ?_
        refine g_iaddN C dX12_readClash_65 ?_
        refine g_dup2 C dX12_readClash_66 rfl rfl ?_
        refine g_iald C 2 rfl (by omega) (by decide) dX12_readClash_67 ?_
        refine g_iconst C (nI 1) dX12_readClash_68 (by decide) ?_
        refine g_iload_n C dX12_readClash_69 rfl 0 rfl ?_
        refine g_as hj.1 ?_
        refine g_ishl1 C dX12_readClash_70 (by omega) ?_
        refine g_ior C dX12_readClash_71 ?_
        refine g_iast C (ws' := fun fq5 => [(m0, oB 12 [.ref x0, .int (nI n), .int (nI ((rdv tx n (rdv tx n Q)).1)), .int (nI ((rdv tx n (rdv tx n Q)).2.2.1)), .int ((rdv tx n (rdv tx n Q)).2.1), .int ((rdv tx n (rdv tx n Q)).2.2.2), .ref x1, .ref x2, .ref x3, .ref x4, .int (nI und), .ref x5, .ref x6, .int (nI nt), .ref x7, .ref x8, .long tr, .ref x9]), (x0, iA E 200 tx), (x1, iA E 21 fq5)]) 2 rfl (by omega) (by decide) dX12_readClash_72 (fun _ _ => rfl) (fun fq5 efq5 => ?_)
        refine g_aload_n C dX12_readClash_73 rfl 1 rfl ?_
        refine g_callV C (rest := []) (n := 0) (kX12_itemEnds l E m0 x0 x1 x2 x3 x4 x5 x6 x7 x8 x9 n und nt tr (rdv tx n (rdv tx n Q)) tx (hn) ((rdv_le (rdv_le hp).1).1)) gX12_readClash_X12_itemEnds rfl ⟨rfl, rfl⟩ (by decide) (Nat.le_of_ble_eq_true rfl) rfl (by decide +kernel) rfl dX12_readClash_74 0 rfl rfl [0, 1] [2] rfl rfl ?_
        refine g_is1 (ws2 := [(m0, oB 12 [.ref x0, .int (nI n), .int (nI ((rdv tx n (rdv tx n (rdv tx n Q))).1)), .int (nI ((rdv tx n (rdv tx n (rdv tx n Q))).2.2.1)), .int ((rdv tx n (rdv tx n (rdv tx n Q))).2.1), .int ((rdv tx n (rdv tx n (rdv tx n Q))).2.2.2), .ref x1, .ref x2, .ref x3, .ref x4, .int (nI und), .ref x5, .ref x6, .int (nI nt), .ref x7, .ref x8, .long tr, .ref x9]), (x0, iA E 200 tx), (x1, iA E 21 fq5)]) (st2 := [.int (bI ((rdv tx n (rdv tx n (rdv tx n Q))).2.1 = nI 3))]) [1, 2, 0] rfl rfl rfl ?_
        exact g_zret C X (nar_bI _) dX12_readClash_77 (⟨by rw [hv], by first | (rw [hv]; done) | (rw [hv, efq5, efq4, clR]; done)⟩)
      · have hv := mC_n2 (rd := rd) cq1 (fun z => z.2 cq3)
        refine g_iconst C (nI 0) dX12_readClash_35 (by decide) ?_
        exact g_zret C X rfl dX12_readClash_36 (⟨by rw [hv], by first | (rw [hv]; done) | (rw [hv, clR]; done)⟩)
  · have hv := mC_n (rd := rd) cq1
    refine g_iconst C (nI 0) dX12_readClash_10 (by decide) ?_
    exact g_zret C X rfl dX12_readClash_11 (⟨by rw [hv], by first | (rw [hv]; done) | (rw [hv, clR]; done)⟩)

set_option maxHeartbeats 4000000 in
set_option maxRecDepth 100000 in
theorem kX12_readItem (l : Launch) (E : EX) (m0 x0 x1 x2 x3 x4 x5 x6 x7 x8 x9 n und nt : Nat) (tr : Int64) (Q : RS) (tx rd : Nat → Int32) (i : Nat) (hn : n ≤ 200) (hp : Q.1 ≤ n) (hi : i ≤ 201) (h0 : rd 0 = nI (npR rd)) (h6 : npR rd ≤ 6) : M l E yX12_readItem wsX12_readItem { frames := 5, cells := 0, slots := 0, locals := 108 } 0 0 [.ref m0, .int (nI i)] [(m0, oB 12 [.ref x0, .int (nI n), .int (nI Q.1), .int (nI Q.2.2.1), .int Q.2.1, .int Q.2.2.2, .ref x1, .ref x2, .ref x3, .ref x4, .int (nI und), .ref x5, .ref x6, .int (nI nt), .ref x7, .ref x8, .long tr, .ref x9]), (x0, iA E 200 tx), (x1, iA E 21 rd)] (is1 (some (.int ((mI tx n i Q rd).1))) [(m0, oB 12 [.ref x0, .int (nI n), .int (nI (((mI tx n i Q rd).2.1).1)), .int (nI (((mI tx n i Q rd).2.1).2.2.1)), .int (((mI tx n i Q rd).2.1).2.1), .int (((mI tx n i Q rd).2.1).2.2.2), .ref x1, .ref x2, .ref x3, .ref x4, .int (nI und), .ref x5, .ref x6, .int (nI nt), .ref x7, .ref x8, .long tr, .ref x9]), (x0, iA E 200 tx), (x1, iA E 21 ((mI tx n i Q rd).2.2))]) := by
  refine M.ofG (cc := cX12_readItem) (maxL := 3) (ret := (some .boolean)) (lv := [(0, .ref m0), (1, .int (nI i))]) (own := RX12) (by decide) rfl rfl (Nat.le_of_ble_eq_true rfl) rfl ?_
  intro K C X _
  have i12 : ∀ w ∈ wsX120, w ∈ wsX12_readItem := by decide +kernel
  refine g_aload_n C dX12_readItem_0 rfl 0 rfl ?_
  refine g_get C i12 0 rfl rfl 4 (by decide) (List.mem_of_getElem? (i := 1) rfl) rfl rfl dX12_readItem_1 ?_
  refine g_iconst C (nI 1) dX12_readItem_4 (by decide) ?_
  refine g_icmp_eq C 10 dX12_readItem_5 (by decide) (fun cq1 => ?_) (fun cq1 => ?_)
  · have hv0 : mI tx n i Q rd = _ := if_pos cq1
    refine g_aload_n C dX12_readItem_10 rfl 0 rfl ?_
    refine g_get C i12 0 rfl rfl 5 (by decide) (List.mem_of_getElem? (i := 2) rfl) rfl rfl dX12_readItem_11 ?_
    refine g_bipush C (nI 113) dX12_readItem_14 (by decide) ?_
    refine g_icmp_ne C 50 dX12_readItem_16 (by decide) (fun cq2 => ?_) (fun cq2 => ?_)
    · rw [if_neg cq2] at hv0
      refine g_aload_n C dX12_readItem_50 rfl 0 rfl ?_
      refine g_get C i12 0 rfl rfl 5 (by decide) (List.mem_of_getElem? (i := 2) rfl) rfl rfl dX12_readItem_51 ?_
      refine g_bipush C (nI 120) dX12_readItem_54 (by decide) ?_
      refine g_icmp_ne C 64 dX12_readItem_56 (by decide) (fun cq3 => ?_) (fun cq3 => ?_)
      · rw [if_neg cq3] at hv0
        refine g_iconst C (nI 2) dX12_readItem_64 (by decide) ?_
        refine g_iconst C (nI 2) dX12_readItem_65 (by decide) ?_
        refine g_aload_n C dX12_readItem_66 rfl 0 rfl ?_
        refine g_get C i12 0 rfl rfl 6 (by decide) (List.mem_of_getElem? (i := 3) rfl) rfl rfl dX12_readItem_67 ?_
        refine g_iconst C (nI 0) dX12_readItem_70 (by decide) ?_
        refine g_iald C 2 rfl (by omega) (by decide) dX12_readItem_71 ?_
        refine g_as h0 ?_
        refine g_imulN C dX12_readItem_72 ?_
        refine g_iaddN C dX12_readItem_73 ?_
        refine g_istore_n C (lv' := [(2, .int (nI (2 + 2 * (npR rd)))), (0, .ref m0), (1, .int (nI i))]) dX12_readItem_74 rfl (by decide) rfl ?_
        refine g_aload_n C dX12_readItem_75 rfl 1 rfl ?_
        refine g_get C i12 0 rfl rfl 6 (by decide) (List.mem_of_getElem? (i := 3) rfl) rfl rfl dX12_readItem_76 ?_
        refine g_iconst C (nI 0) dX12_readItem_79 (by decide) ?_
        refine g_iald C 2 rfl (by omega) (by decide) dX12_readItem_80 ?_
        refine g_as h0 ?_
        refine g_bipush C (nI 6) dX12_readItem_81 (by decide) ?_
        refine g_icmp_eqN C 96 dX12_readItem_83 (by decide) (by omega) (by omega) (fun cq4 => ?_) (fun cq4 => ?_)
        · have hv := hv0.trans (if_pos cq4)
          refine g_iconst C (nI 0) dX12_readItem_96 (by decide) ?_
          exact g_zret C X rfl dX12_readItem_97 (⟨by rw [hv], by first | (rw [hv]; done) | (rw [hv]; done) | (rw [hv, perR]; done)⟩)
        · rw [if_neg cq4] at hv0
          refine g_aload_n C dX12_readItem_86 rfl 1 rfl ?_
          refine g_iconst C (nI 0) dX12_readItem_87 (by decide) ?_
          refine g_bipush C (nI 127) dX12_readItem_88 (by decide) ?_
          refine g_callV C (rest := []) (n := 2) (kX12_number l E m0 x0 x1 x2 x3 x4 x5 x6 x7 x8 x9 n und nt tr Q tx 0 127 (by omega) (by omega)) gX12_readItem_X12_number rfl ⟨rfl, rfl⟩ (by decide) (Nat.le_of_ble_eq_true rfl) rfl (by decide +kernel) rfl dX12_readItem_90 0 rfl rfl [0, 1] [2] rfl rfl ?_
          refine g_is1 (ws2 := [(m0, oB 12 [.ref x0, .int (nI n), .int (nI ((rdv tx n Q).1)), .int (nI ((rdv tx n Q).2.2.1)), .int ((rdv tx n Q).2.1), .int ((rdv tx n Q).2.2.2), .ref x1, .ref x2, .ref x3, .ref x4, .int (nI und), .ref x5, .ref x6, .int (nI nt), .ref x7, .ref x8, .long tr, .ref x9]), (x0, iA E 200 tx), (x1, iA E 21 rd)]) (st2 := [.int (bI (nOk2 (rdv tx n Q) 0 127))]) [1, 2, 0] rfl rfl rfl ?_
          refine g_if_neB C 98 dX12_readItem_93 (by decide) (fun cq5 => ?_) (fun cq5 => ?_)
          · unfold mQ at hv0
            rw [if_pos cq5] at hv0
            refine g_aload_n C dX12_readItem_98 rfl 1 rfl ?_
            refine g_get C i12 0 rfl rfl 6 (by decide) (List.mem_of_getElem? (i := 3) rfl) rfl rfl dX12_readItem_99 ?_
            refine g_iload_n C dX12_readItem_102 rfl 0 rfl ?_
            refine g_aload_n C dX12_readItem_103 rfl 1 rfl ?_
            refine g_get C i12 0 rfl rfl 5 (by decide) (List.mem_of_getElem? (i := 2) rfl) rfl rfl dX12_readItem_104 ?_
            refine g_iast C (ws' := fun fq6 => [(m0, oB 12 [.ref x0, .int (nI n), .int (nI ((rdv tx n Q).1)), .int (nI ((rdv tx n Q).2.2.1)), .int ((rdv tx n Q).2.1), .int ((rdv tx n Q).2.2.2), .ref x1, .ref x2, .ref x3, .ref x4, .int (nI und), .ref x5, .ref x6, .int (nI nt), .ref x7, .ref x8, .long tr, .ref x9]), (x0, iA E 200 tx), (x1, iA E 21 fq6)]) 2 rfl (by omega) (by decide) dX12_readItem_107 (fun _ _ => rfl) (fun fq6 efq6 => ?_)
            refine g_aload_n C dX12_readItem_108 rfl 1 rfl ?_
            refine g_iconst C (nI 0) dX12_readItem_109 (by decide) ?_
            refine g_bipush C (nI 10) dX12_readItem_110 (by decide) ?_
            refine g_callV C (rest := []) (n := 2) (kX12_number l E m0 x0 x1 x2 x3 x4 x5 x6 x7 x8 x9 n und nt tr (rdv tx n Q) tx 0 10 (hn) ((rdv_le hp).1)) gX12_readItem_X12_number rfl ⟨rfl, rfl⟩ (by decide) (Nat.le_of_ble_eq_true rfl) rfl (by decide +kernel) rfl dX12_readItem_112 0 rfl rfl [0, 1] [2] rfl rfl ?_
            refine g_is1 (ws2 := [(m0, oB 12 [.ref x0, .int (nI n), .int (nI ((rdv tx n (rdv tx n Q)).1)), .int (nI ((rdv tx n (rdv tx n Q)).2.2.1)), .int ((rdv tx n (rdv tx n Q)).2.1), .int ((rdv tx n (rdv tx n Q)).2.2.2), .ref x1, .ref x2, .ref x3, .ref x4, .int (nI und), .ref x5, .ref x6, .int (nI nt), .ref x7, .ref x8, .long tr, .ref x9]), (x0, iA E 200 tx), (x1, iA E 21 fq6)]) (st2 := [.int (bI (nOk2 (rdv tx n (rdv tx n Q)) 0 10))]) [1, 2, 0] rfl rfl rfl ?_
            refine g_if_neB C 120 dX12_readItem_115 (by decide) (fun cq7 => ?_) (fun cq7 => ?_)
            · have hv := hv0.trans (if_pos cq7)
              refine g_aload_n C dX12_readItem_120 rfl 1 rfl ?_
              refine g_get C i12 0 rfl rfl 6 (by decide) (List.mem_of_getElem? (i := 3) rfl) rfl rfl dX12_readItem_121 ?_
              refine g_iload_n C dX12_readItem_124 rfl 0 rfl ?_
              refine g_iconst C (nI 1) dX12_readItem_125 (by decide) ?_
              refine g_iaddN C dX12_readItem_126 ?_
              refine g_aload_n C dX12_readItem_127 rfl 1 rfl ?_
              refine g_get C i12 0 rfl rfl 5 (by decide) (List.mem_of_getElem? (i := 2) rfl) rfl rfl dX12_readItem_128 ?_
              refine g_iast C (ws' := fun fq8 => [(m0, oB 12 [.ref x0, .int (nI n), .int (nI ((rdv tx n (rdv tx n Q)).1)), .int (nI ((rdv tx n (rdv tx n Q)).2.2.1)), .int ((rdv tx n (rdv tx n Q)).2.1), .int ((rdv tx n (rdv tx n Q)).2.2.2), .ref x1, .ref x2, .ref x3, .ref x4, .int (nI und), .ref x5, .ref x6, .int (nI nt), .ref x7, .ref x8, .long tr, .ref x9]), (x0, iA E 200 tx), (x1, iA E 21 fq8)]) 2 rfl (by omega) (by decide) dX12_readItem_131 (fun _ _ => rfl) (fun fq8 efq8 => ?_)
              refine g_aload_n C dX12_readItem_132 rfl 1 rfl ?_
              refine g_get C i12 0 rfl rfl 6 (by decide) (List.mem_of_getElem? (i := 3) rfl) rfl rfl dX12_readItem_133 ?_
              refine g_iconst C (nI 0) dX12_readItem_136 (by decide) ?_
              refine g_dup2 C dX12_readItem_137 rfl rfl ?_
              refine g_iald C 2 rfl (by omega) (by decide) dX12_readItem_138 ?_
              refine g_iconst C (nI 1) dX12_readItem_139 (by decide) ?_
              refine g_iadd C dX12_readItem_140 ?_
              refine g_iast C (ws' := fun fq9 => [(m0, oB 12 [.ref x0, .int (nI n), .int (nI ((rdv tx n (rdv tx n Q)).1)), .int (nI ((rdv tx n (rdv tx n Q)).2.2.1)), .int ((rdv tx n (rdv tx n Q)).2.1), .int ((rdv tx n (rdv tx n Q)).2.2.2), .ref x1, .ref x2, .ref x3, .ref x4, .int (nI und), .ref x5, .ref x6, .int (nI nt), .ref x7, .ref x8, .long tr, .ref x9]), (x0, iA E 200 tx), (x1, iA E 21 fq9)]) 2 rfl (by omega) (by decide) dX12_readItem_141 (fun _ _ => rfl) (fun fq9 efq9 => ?_)
              refine g_aload_n C dX12_readItem_142 rfl 1 rfl ?_
              refine g_callV C (rest := []) (n := 0) (kX12_itemEnds l E m0 x0 x1 x2 x3 x4 x5 x6 x7 x8 x9 n und nt tr (rdv tx n (rdv tx n Q)) tx (hn) ((rdv_le (rdv_le hp).1).1)) gX12_readItem_X12_itemEnds rfl ⟨rfl, rfl⟩ (by decide) (Nat.le_of_ble_eq_true rfl) rfl (by decide +kernel) rfl dX12_readItem_143 0 rfl rfl [0, 1] [2] rfl rfl ?_
              refine g_is1 (ws2 := [(m0, oB 12 [.ref x0, .int (nI n), .int (nI ((rdv tx n (rdv tx n (rdv tx n Q))).1)), .int (nI ((rdv tx n (rdv tx n (rdv tx n Q))).2.2.1)), .int ((rdv tx n (rdv tx n (rdv tx n Q))).2.1), .int ((rdv tx n (rdv tx n (rdv tx n Q))).2.2.2), .ref x1, .ref x2, .ref x3, .ref x4, .int (nI und), .ref x5, .ref x6, .int (nI nt), .ref x7, .ref x8, .long tr, .ref x9]), (x0, iA E 200 tx), (x1, iA E 21 fq9)]) (st2 := [.int (bI ((rdv tx n (rdv tx n (rdv tx n Q))).2.1 = nI 3))]) [1, 2, 0] rfl rfl rfl ?_
              exact g_zret C X (nar_bI _) dX12_readItem_146 (⟨by rw [hv], by first | (rw [hv]; done) | (rw [hv, efq9, efq8, efq6]; done) | (rw [hv, efq9, efq8, efq6, perR]; done)⟩)
            · have hv := hv0.trans (if_neg cq7)
              refine g_iconst C (nI 0) dX12_readItem_118 (by decide) ?_
              exact g_zret C X rfl dX12_readItem_119 (⟨by rw [hv], by first | (rw [hv]; done) | (rw [hv, efq6]; done) | (rw [hv, efq6, perR]; done)⟩)
          · have hv := hv0.trans (if_neg cq5)
            refine g_iconst C (nI 0) dX12_readItem_96 (by decide) ?_
            exact g_zret C X rfl dX12_readItem_97 (⟨by rw [hv], by first | (rw [hv]; done) | (rw [hv]; done) | (rw [hv, perR]; done)⟩)
      · have hv := hv0.trans (if_pos cq3)
        refine g_aload_n C dX12_readItem_59 rfl 0 rfl ?_
        refine g_callV C (rest := []) (n := 0) (kX12_readClash l E m0 x0 x1 x2 x3 x4 x5 x6 x7 x8 x9 n und nt tr Q tx rd (by omega) (by omega)) gX12_readItem_X12_readClash rfl ⟨rfl, rfl⟩ (by decide) (Nat.le_of_ble_eq_true rfl) rfl (by decide +kernel) rfl dX12_readItem_60 0 rfl rfl [0, 1, 2] [] rfl rfl ?_
        refine g_is1 (ws2 := [(m0, oB 12 [.ref x0, .int (nI n), .int (nI (((mC tx n Q rd).2.1).1)), .int (nI (((mC tx n Q rd).2.1).2.2.1)), .int (((mC tx n Q rd).2.1).2.1), .int (((mC tx n Q rd).2.1).2.2.2), .ref x1, .ref x2, .ref x3, .ref x4, .int (nI und), .ref x5, .ref x6, .int (nI nt), .ref x7, .ref x8, .long tr, .ref x9]), (x0, iA E 200 tx), (x1, iA E 21 ((mC tx n Q rd).2.2))]) (st2 := [.int ((mC tx n Q rd).1)]) [0, 1, 2] rfl rfl rfl ?_
        exact g_zret C X (nar_01 (mC_01 tx n Q rd)) dX12_readItem_63 (⟨by rw [hv], by first | (rw [hv]; done) | (rw [hv]; done) | (rw [hv, perR]; done)⟩)
    · rw [if_pos cq2] at hv0
      refine g_iload_n C dX12_readItem_19 rfl 1 rfl ?_
      refine g_if_gtN C 33 dX12_readItem_20 (by decide) (by omega) (fun cq10 => ?_) (fun cq10 => ?_)
      · have hv := hv0.trans (if_pos cq10)
        refine g_iconst C (nI 0) dX12_readItem_33 (by decide) ?_
        exact g_zret C X rfl dX12_readItem_34 (⟨by rw [hv], by first | (rw [hv]; done) | (rw [hv]; done) | (rw [hv, perR]; done)⟩)
      · rw [if_neg (by omega)] at hv0
        refine g_aload_n C dX12_readItem_23 rfl 0 rfl ?_
        refine g_iconst C (nI 1) dX12_readItem_24 (by decide) ?_
        refine g_bipush C (nI 6) dX12_readItem_25 (by decide) ?_
        refine g_callV C (rest := []) (n := 2) (kX12_number l E m0 x0 x1 x2 x3 x4 x5 x6 x7 x8 x9 n und nt tr Q tx 1 6 (by omega) (by omega)) gX12_readItem_X12_number rfl ⟨rfl, rfl⟩ (by decide) (Nat.le_of_ble_eq_true rfl) rfl (by decide +kernel) rfl dX12_readItem_27 0 rfl rfl [0, 1] [2] rfl rfl ?_
        refine g_is1 (ws2 := [(m0, oB 12 [.ref x0, .int (nI n), .int (nI ((rdv tx n Q).1)), .int (nI ((rdv tx n Q).2.2.1)), .int ((rdv tx n Q).2.1), .int ((rdv tx n Q).2.2.2), .ref x1, .ref x2, .ref x3, .ref x4, .int (nI und), .ref x5, .ref x6, .int (nI nt), .ref x7, .ref x8, .long tr, .ref x9]), (x0, iA E 200 tx), (x1, iA E 21 rd)]) (st2 := [.int (bI (nOk2 (rdv tx n Q) 1 6))]) [1, 2, 0] rfl rfl rfl ?_
        refine g_if_neB C 35 dX12_readItem_30 (by decide) (fun cq11 => ?_) (fun cq11 => ?_)
        · have hv := hv0.trans (if_pos cq11)
          refine g_aload_n C dX12_readItem_35 rfl 0 rfl ?_
          refine g_get C i12 0 rfl rfl 6 (by decide) (List.mem_of_getElem? (i := 3) rfl) rfl rfl dX12_readItem_36 ?_
          refine g_iconst C (nI 1) dX12_readItem_39 (by decide) ?_
          refine g_aload_n C dX12_readItem_40 rfl 0 rfl ?_
          refine g_get C i12 0 rfl rfl 5 (by decide) (List.mem_of_getElem? (i := 2) rfl) rfl rfl dX12_readItem_41 ?_
          refine g_iast C (ws' := fun fq12 => [(m0, oB 12 [.ref x0, .int (nI n), .int (nI ((rdv tx n Q).1)), .int (nI ((rdv tx n Q).2.2.1)), .int ((rdv tx n Q).2.1), .int ((rdv tx n Q).2.2.2), .ref x1, .ref x2, .ref x3, .ref x4, .int (nI und), .ref x5, .ref x6, .int (nI nt), .ref x7, .ref x8, .long tr, .ref x9]), (x0, iA E 200 tx), (x1, iA E 21 fq12)]) 2 rfl (by omega) (by decide) dX12_readItem_44 (fun _ _ => rfl) (fun fq12 efq12 => ?_)
          refine g_aload_n C dX12_readItem_45 rfl 0 rfl ?_
          refine g_callV C (rest := []) (n := 0) (kX12_itemEnds l E m0 x0 x1 x2 x3 x4 x5 x6 x7 x8 x9 n und nt tr (rdv tx n Q) tx (hn) ((rdv_le hp).1)) gX12_readItem_X12_itemEnds rfl ⟨rfl, rfl⟩ (by decide) (Nat.le_of_ble_eq_true rfl) rfl (by decide +kernel) rfl dX12_readItem_46 0 rfl rfl [0, 1] [2] rfl rfl ?_
          refine g_is1 (ws2 := [(m0, oB 12 [.ref x0, .int (nI n), .int (nI ((rdv tx n (rdv tx n Q)).1)), .int (nI ((rdv tx n (rdv tx n Q)).2.2.1)), .int ((rdv tx n (rdv tx n Q)).2.1), .int ((rdv tx n (rdv tx n Q)).2.2.2), .ref x1, .ref x2, .ref x3, .ref x4, .int (nI und), .ref x5, .ref x6, .int (nI nt), .ref x7, .ref x8, .long tr, .ref x9]), (x0, iA E 200 tx), (x1, iA E 21 fq12)]) (st2 := [.int (bI ((rdv tx n (rdv tx n Q)).2.1 = nI 3))]) [1, 2, 0] rfl rfl rfl ?_
          exact g_zret C X (nar_bI _) dX12_readItem_49 (⟨by rw [hv], by first | (rw [hv]; done) | (rw [hv, efq12]; done) | (rw [hv, efq12, perR]; done)⟩)
        · have hv := hv0.trans (if_neg cq11)
          refine g_iconst C (nI 0) dX12_readItem_33 (by decide) ?_
          exact g_zret C X rfl dX12_readItem_34 (⟨by rw [hv], by first | (rw [hv]; done) | (rw [hv]; done) | (rw [hv, perR]; done)⟩)
  · have hv : mI tx n i Q rd = (nI 0, Q, rd) := if_neg cq1
    refine g_iconst C (nI 0) dX12_readItem_8 (by decide) ?_
    exact g_zret C X rfl dX12_readItem_9 (⟨by rw [hv], by first | (rw [hv]; done) | (rw [hv]; done) | (rw [hv, perR]; done)⟩)

def cpA (f g : Nat → Int32) (k : Nat) : Nat → Int32 := fun j => if j < k then f j else g j
theorem cpA_0 (f g : Nat → Int32) : cpA f g 0 = g := by
  funext j
  unfold cpA
  rw [if_neg (Nat.not_lt_zero j)]
theorem cpA_s (f g : Nat → Int32) (k : Nat) : upd (cpA f g k) k (f k) = cpA f g (k + 1) := by
  funext j
  unfold upd cpA
  by_cases h : j = k
  · rw [if_pos h, if_pos (by omega), h]
  · rw [if_neg h]
    by_cases h2 : j < k
    · rw [if_pos h2, if_pos (by omega)]
    · rw [if_neg h2, if_neg (by omega)]
/-- the class's row of a scene, as the reference lays it -/
def nowO (f : Nat → Int32) : Nat → Int32 := fun k => if k = 0 then f 49 else if k = 1 then f 48 else if k < 8 then f (42 + (k - 2)) else if k < 50 then f (k - 8) else nI 0
/-- the class's told, as the reference lays it -/
def papO (T : TS) : Nat → Int32 := fun k => if k = 0 then nI T.1 else if k = 1 then nI T.2.1 else if k < 14 then (if (k - 2) / 2 < T.1 then (if (k - 2) % 2 = 0 then T.2.2.1 ((k - 2) / 2) else T.2.2.2.1 ((k - 2) / 2)) else nI 0) else if k < 21 then T.2.2.2.2 (k - 14) else nI 0
theorem papO_0 (T : TS) : papO T 0 = nI T.1 := rfl
theorem papO_1 (T : TS) : papO T 1 = nI T.2.1 := rfl
theorem papO_k {T : TS} {p : Nat} (h : p < T.1) (h6 : T.1 ≤ 6) : papO T (2 + 2 * p) = T.2.2.1 p := by
  unfold papO
  rw [if_neg (by omega), if_neg (by omega), if_pos (by omega), if_pos (by omega), if_pos (by omega), show (2 + 2 * p - 2) / 2 = p by omega]
theorem papO_t {T : TS} {p : Nat} (h : p < T.1) (h6 : T.1 ≤ 6) : papO T (2 + 2 * p + 1) = T.2.2.2.1 p := by
  unfold papO
  rw [if_neg (by omega), if_neg (by omega), if_pos (by omega), if_pos (by omega), if_neg (by omega), show (2 + 2 * p + 1 - 2) / 2 = p by omega]
theorem papO_c {T : TS} {t : Nat} (h : t < 7) : papO T (14 + t) = T.2.2.2.2 t := by
  unfold papO
  rw [if_neg (by omega), if_neg (by omega), if_neg (by omega), if_pos (by omega), show 14 + t - 14 = t by omega]
theorem nowO_0 (f : Nat → Int32) : nowO f 0 = f 49 := rfl
theorem nowO_1 (f : Nat → Int32) : nowO f 1 = f 48 := rfl
theorem nowO_b {f : Nat → Int32} {p : Nat} (h : p < 6) : nowO f (2 + p) = f (42 + p) := by
  unfold nowO
  rw [if_neg (by omega), if_neg (by omega), if_pos (by omega), show 42 + (2 + p - 2) = 42 + p by omega]
theorem nowO_h {f : Nat → Int32} {q t : Nat} (hq : q < 6) (ht : t < 7) : nowO f (8 + 7 * q + t) = f (q * 7 + t) := by
  unfold nowO
  rw [if_neg (by omega), if_neg (by omega), if_neg (by omega), if_pos (by omega), show 8 + 7 * q + t - 8 = q * 7 + t by omega]
theorem nowO_ue {f : Nat → Int32} {i j : Nat} {x : Int32} (h1 : nowO (upd f j x) i = x) (h2 : ∀ k, k ≠ i → nowO (upd f j x) k = nowO f k) : upd (nowO f) i x = nowO (upd f j x) := by
  funext k
  by_cases h : k = i
  · subst h; rw [pk_us, h1]
  · rw [pk_un h, h2 k h]
theorem nowO_cg {f g : Nat → Int32} {k : Nat} (h49 : k = 0 → f 49 = g 49) (h48 : k = 1 → f 48 = g 48) (hb : ∀ p, p < 6 → k = 2 + p → f (42 + p) = g (42 + p)) (hh : ∀ i, i < 42 → k = 8 + i → f i = g i) : nowO f k = nowO g k := by
  unfold nowO
  by_cases h0 : k = 0
  · rw [if_pos h0, if_pos h0, h49 h0]
  · rw [if_neg h0, if_neg h0]
    by_cases h1 : k = 1
    · rw [if_pos h1, if_pos h1, h48 h1]
    · rw [if_neg h1, if_neg h1]
      by_cases h8 : k < 8
      · rw [if_pos h8, if_pos h8, hb (k - 2) (by omega) (by omega)]
      · rw [if_neg h8, if_neg h8]
        by_cases h50 : k < 50
        · rw [if_pos h50, if_pos h50, hh (k - 8) (by omega) (by omega)]
        · rw [if_neg h50, if_neg h50]
theorem nowO_u0 (f : Nat → Int32) (x : Int32) : upd (nowO f) 0 x = nowO (upd f 49 x) :=
  nowO_ue (by rw [nowO_0, pk_us]) (fun k hk => nowO_cg (fun h => absurd h hk) (fun _ => pk_un (by decide)) (fun p _ _ => pk_un (by omega)) (fun i _ _ => pk_un (by omega)))
theorem nowO_u1 (f : Nat → Int32) (x : Int32) : upd (nowO f) 1 x = nowO (upd f 48 x) :=
  nowO_ue (by rw [nowO_1, pk_us]) (fun k hk => nowO_cg (fun _ => pk_un (by decide)) (fun h => absurd h hk) (fun p _ _ => pk_un (by omega)) (fun i _ _ => pk_un (by omega)))
theorem nowO_ub {f : Nat → Int32} {p : Nat} {x : Int32} (h : p < 6) : upd (nowO f) (2 + p) x = nowO (upd f (42 + p) x) :=
  nowO_ue (by rw [nowO_b h, pk_us]) (fun k hk => nowO_cg (fun _ => pk_un (by omega)) (fun _ => pk_un (by omega)) (fun p2 _ h2 => pk_un (by omega)) (fun i _ _ => pk_un (by omega)))
theorem nowO_uh {f : Nat → Int32} {q t : Nat} {x : Int32} (hq : q < 6) (ht : t < 7) : upd (nowO f) (8 + 7 * q + t) x = nowO (upd f (q * 7 + t) x) :=
  nowO_ue (by rw [nowO_h hq ht, pk_us]) (fun k hk => nowO_cg (fun _ => pk_un (by omega)) (fun _ => pk_un (by omega)) (fun p _ _ => pk_un (by omega)) (fun i _ h2 => pk_un (by omega)))
theorem nowO_fil (f : Nat → Int32) : filA (nowO f) (nI 0) 50 = nowO (filA f (nI 0) 50) := by
  funext k
  have e : ∀ j, j < 50 → filA f (nI 0) 50 j = nI 0 := fun j hj => if_pos hj
  by_cases h : k < 50
  · rw [show filA (nowO f) (nI 0) 50 k = nI 0 from if_pos h]
    have e2 : nowO (filA f (nI 0) 50) k = nowO (fun _ => nI 0) k := nowO_cg (fun _ => e _ (by decide)) (fun _ => e _ (by decide)) (fun p hp _ => e _ (by omega)) (fun i hi _ => e _ (by omega))
    rw [e2]
    unfold nowO
    split
    · rfl
    · split
      · rfl
      · split
        · rfl
        · first | rfl | (split <;> rfl)
  · rw [show filA (nowO f) (nI 0) 50 k = nowO f k from if_neg h]
    exact nowO_cg (fun z => absurd z (by omega)) (fun z => absurd z (by omega)) (fun p _ z => absurd z (by omega)) (fun i _ z => absurd z (by omega))

set_option maxHeartbeats 4000000 in
set_option maxRecDepth 100000 in
theorem kX12_takes (l : Launch) (E : EX) (m0 x0 x1 x2 x3 x4 x5 x6 x7 x8 x9 n und nt : Nat) (tr : Int64) (Q : RS) (rd pp f ke : Nat → Int32) (a b : Nat) (h0 : rd 0 = nI a) (h1 : rd 1 = nI b) (ha : a ≤ 6) (hb : b ≤ 6) : M l E yX12_takes wsX12_takes { frames := 0, cells := 0, slots := 0, locals := 0 } 0 0 [.ref m0] [(m0, oB 12 [.ref x0, .int (nI n), .int (nI Q.1), .int (nI Q.2.2.1), .int Q.2.1, .int Q.2.2.2, .ref x1, .ref x2, .ref x3, .ref x4, .int (nI und), .ref x5, .ref x6, .int (nI nt), .ref x7, .ref x8, .long tr, .ref x9]), (x1, iA E 21 rd), (x2, iA E 21 pp), (x3, iA E 50 (nowO f)), (x9, iA E 102 ke)] (is1 none [(m0, oB 12 [.ref x0, .int (nI n), .int (nI Q.1), .int (nI Q.2.2.1), .int Q.2.1, .int Q.2.2.2, .ref x1, .ref x2, .ref x3, .ref x4, .int (nI 0), .ref x5, .ref x6, .int (nI 0), .ref x7, .ref x8, .long tr, .ref x9]), (x1, iA E 21 rd), (x2, iA E 21 (cpA rd pp 21)), (x3, iA E 50 (nowO (begA f a b 6))), (x9, iA E 102 (upd (upd ke 0 (nI 0)) 51 (nI 0)))]) := by
  refine M.ofG (cc := cX12_takes) (maxL := 2) (ret := none) (lv := [(0, .ref m0)]) (own := RX12) (by decide) rfl rfl (Nat.le_of_ble_eq_true rfl) rfl ?_
  intro K C X _
  have i12 : ∀ w ∈ wsX120, w ∈ wsX12_takes := by decide +kernel
  refine g_iconst C (nI 0) dX12_takes_0 (by decide) ?_
  refine g_istore_n C (lv' := [(1, .int (nI 0)), (0, .ref m0)]) dX12_takes_1 rfl (by decide) rfl ?_
  have L2 : ∀ (zz k : Nat) (u : Nat → Int32), k + zz = 21 + 1 → k ≤ 21 → (u = cpA rd pp k) → G K 0 0 2 [(0, .ref m0), (1, .int (nI k))] [] [(m0, oB 12 [.ref x0, .int (nI n), .int (nI Q.1), .int (nI Q.2.2.1), .int Q.2.1, .int Q.2.2.2, .ref x1, .ref x2, .ref x3, .ref x4, .int (nI und), .ref x5, .ref x6, .int (nI nt), .ref x7, .ref x8, .long tr, .ref x9]), (x1, iA E 21 rd), (x2, iA E 21 u), (x3, iA E 50 (nowO f)), (x9, iA E 102 ke)] := by
    intro zz
    induction zz with
    | zero => intro k u hL2 gL2; exfalso; omega
    | succ zz ihL2 =>
      intro k u hL2 gL2 hu
      refine g_iload_n C dX12_takes_2 rfl 1 rfl ?_
      refine g_bipush C (nI 21) dX12_takes_3 (by decide) ?_
      refine g_icmp_geN C 26 dX12_takes_5 (by decide) (by omega) (by omega) (fun cq1 => ?_) (fun cq1 => ?_)
      · have hk9 : u = cpA rd pp 21 := by rw [hu, show k = 21 by omega]
        refine g_iconst C (nI 0) dX12_takes_26 (by decide) ?_
        refine g_istore_n C (lv' := [(1, .int (nI 0)), (0, .ref m0)]) dX12_takes_27 rfl (by decide) rfl ?_
        have L28 : ∀ (zz k2 : Nat) (v : Nat → Int32), k2 + zz = 50 + 1 → k2 ≤ 50 → (v = filA (nowO f) (nI 0) k2) → G K 0 0 28 [(0, .ref m0), (1, .int (nI k2))] [] [(m0, oB 12 [.ref x0, .int (nI n), .int (nI Q.1), .int (nI Q.2.2.1), .int Q.2.1, .int Q.2.2.2, .ref x1, .ref x2, .ref x3, .ref x4, .int (nI und), .ref x5, .ref x6, .int (nI nt), .ref x7, .ref x8, .long tr, .ref x9]), (x1, iA E 21 rd), (x2, iA E 21 u), (x3, iA E 50 v), (x9, iA E 102 ke)] := by
          intro zz
          induction zz with
          | zero => intro k2 v hL28 gL28; exfalso; omega
          | succ zz ihL28 =>
            intro k2 v hL28 gL28 hv
            refine g_iload_n C dX12_takes_28 rfl 1 rfl ?_
            refine g_bipush C (nI 50) dX12_takes_29 (by decide) ?_
            refine g_icmp_geN C 47 dX12_takes_31 (by decide) (by omega) (by omega) (fun cq2 => ?_) (fun cq2 => ?_)
            · obtain rfl : v = nowO (filA f (nI 0) 50) := by rw [hv, show k2 = 50 by omega, nowO_fil]
              refine g_iconst C (nI 0) dX12_takes_47 (by decide) ?_
              refine g_istore_n C (lv' := [(1, .int (nI 0)), (0, .ref m0)]) dX12_takes_48 rfl (by decide) rfl ?_
              have L49 : ∀ (zz k3 : Nat) (g : Nat → Int32), k3 + zz = 6 + 1 → k3 ≤ 6 → (g = begA f a b k3) → G K 0 0 49 [(0, .ref m0), (1, .int (nI k3))] [] [(m0, oB 12 [.ref x0, .int (nI n), .int (nI Q.1), .int (nI Q.2.2.1), .int Q.2.1, .int Q.2.2.2, .ref x1, .ref x2, .ref x3, .ref x4, .int (nI und), .ref x5, .ref x6, .int (nI nt), .ref x7, .ref x8, .long tr, .ref x9]), (x1, iA E 21 rd), (x2, iA E 21 u), (x3, iA E 50 (nowO g)), (x9, iA E 102 ke)] := by
                intro zz
                induction zz with
                | zero => intro k3 g hL49 gL49; exfalso; omega
                | succ zz ihL49 =>
                  intro k3 g hL49 gL49 hg
                  refine g_iload_n C dX12_takes_49 rfl 1 rfl ?_
                  refine g_bipush C (nI 6) dX12_takes_50 (by decide) ?_
                  refine g_icmp_geN C 95 dX12_takes_52 (by decide) (by omega) (by omega) (fun cq3 => ?_) (fun cq3 => ?_)
                  · have hk7 : g = begA f a b 6 := by rw [hg, show k3 = 6 by omega]
                    refine g_aload_n C dX12_takes_95 rfl 0 rfl ?_
                    refine g_iconst C (nI 0) dX12_takes_96 (by decide) ?_
                    refine g_put C i12 tyX12 tyX12_ok nmX12 0 rfl rfl 13 (by decide) (List.mem_of_getElem? (i := 4) rfl) rfl rfl rfl rfl rfl (Nat.le_of_ble_eq_true rfl) dX12_takes_97 (ws' := [(m0, oB 12 [.ref x0, .int (nI n), .int (nI Q.1), .int (nI Q.2.2.1), .int Q.2.1, .int Q.2.2.2, .ref x1, .ref x2, .ref x3, .ref x4, .int (nI und), .ref x5, .ref x6, .int (nI 0), .ref x7, .ref x8, .long tr, .ref x9]), (x1, iA E 21 rd), (x2, iA E 21 u), (x3, iA E 50 (nowO g)), (x9, iA E 102 ke)]) rfl ?_
                    refine g_aload_n C dX12_takes_100 rfl 0 rfl ?_
                    refine g_iconst C (nI 0) dX12_takes_101 (by decide) ?_
                    refine g_put C i12 tyX12 tyX12_ok nmX12 0 rfl rfl 10 (by decide) (List.mem_of_getElem? (i := 5) rfl) rfl rfl rfl rfl rfl (Nat.le_of_ble_eq_true rfl) dX12_takes_102 (ws' := [(m0, oB 12 [.ref x0, .int (nI n), .int (nI Q.1), .int (nI Q.2.2.1), .int Q.2.1, .int Q.2.2.2, .ref x1, .ref x2, .ref x3, .ref x4, .int (nI 0), .ref x5, .ref x6, .int (nI 0), .ref x7, .ref x8, .long tr, .ref x9]), (x1, iA E 21 rd), (x2, iA E 21 u), (x3, iA E 50 (nowO g)), (x9, iA E 102 ke)]) rfl ?_
                    refine g_aload_n C dX12_takes_105 rfl 0 rfl ?_
                    refine g_get C i12 0 rfl rfl 17 (by decide) (List.mem_of_getElem? (i := 6) rfl) rfl rfl dX12_takes_106 ?_
                    refine g_iconst C (nI 0) dX12_takes_109 (by decide) ?_
                    refine g_iconst C (nI 0) dX12_takes_110 (by decide) ?_
                    refine g_iast C (ws' := fun fq4 => [(m0, oB 12 [.ref x0, .int (nI n), .int (nI Q.1), .int (nI Q.2.2.1), .int Q.2.1, .int Q.2.2.2, .ref x1, .ref x2, .ref x3, .ref x4, .int (nI 0), .ref x5, .ref x6, .int (nI 0), .ref x7, .ref x8, .long tr, .ref x9]), (x1, iA E 21 rd), (x2, iA E 21 u), (x3, iA E 50 (nowO g)), (x9, iA E 102 fq4)]) 4 rfl (by omega) (by decide) dX12_takes_111 (fun _ _ => rfl) (fun fq4 efq4 => ?_)
                    refine g_aload_n C dX12_takes_112 rfl 0 rfl ?_
                    refine g_get C i12 0 rfl rfl 17 (by decide) (List.mem_of_getElem? (i := 6) rfl) rfl rfl dX12_takes_113 ?_
                    refine g_bipush C (nI 51) dX12_takes_116 (by decide) ?_
                    refine g_iconst C (nI 0) dX12_takes_118 (by decide) ?_
                    refine g_iast C (ws' := fun fq5 => [(m0, oB 12 [.ref x0, .int (nI n), .int (nI Q.1), .int (nI Q.2.2.1), .int Q.2.1, .int Q.2.2.2, .ref x1, .ref x2, .ref x3, .ref x4, .int (nI 0), .ref x5, .ref x6, .int (nI 0), .ref x7, .ref x8, .long tr, .ref x9]), (x1, iA E 21 rd), (x2, iA E 21 u), (x3, iA E 50 (nowO g)), (x9, iA E 102 fq5)]) 4 rfl (by omega) (by decide) dX12_takes_119 (fun _ _ => rfl) (fun fq5 efq5 => ?_)
                    exact g_vret C X dX12_takes_120 (⟨rfl, by rw [hk9, hk7, efq5, efq4]⟩)
                  · refine g_aload_n C dX12_takes_55 rfl 0 rfl ?_
                    refine g_get C i12 0 rfl rfl 8 (by decide) (List.mem_of_getElem? (i := 3) rfl) rfl rfl dX12_takes_56 ?_
                    refine g_iconst C (nI 2) dX12_takes_59 (by decide) ?_
                    refine g_iload_n C dX12_takes_60 rfl 1 rfl ?_
                    refine g_iaddN C dX12_takes_61 ?_
                    refine g_iload_n C dX12_takes_62 rfl 1 rfl ?_
                    refine g_aload_n C dX12_takes_63 rfl 0 rfl ?_
                    refine g_get C i12 0 rfl rfl 7 (by decide) (List.mem_of_getElem? (i := 1) rfl) rfl rfl dX12_takes_64 ?_
                    refine g_iconst C (nI 0) dX12_takes_67 (by decide) ?_
                    refine g_iald C 2 rfl (by omega) (by decide) dX12_takes_68 ?_
                    refine g_as (show u 0 = nI a by rw [hk9]; exact h0) ?_
                    refine g_icmp_geN C 86 dX12_takes_69 (by decide) (by omega) (by omega) (fun cq6 => ?_) (fun cq6 => ?_)
                    · refine g_bipush C ((-9)) dX12_takes_86 (by decide) ?_
                      refine g_iast C (ws' := fun fq7 => [(m0, oB 12 [.ref x0, .int (nI n), .int (nI Q.1), .int (nI Q.2.2.1), .int Q.2.1, .int Q.2.2.2, .ref x1, .ref x2, .ref x3, .ref x4, .int (nI und), .ref x5, .ref x6, .int (nI nt), .ref x7, .ref x8, .long tr, .ref x9]), (x1, iA E 21 rd), (x2, iA E 21 u), (x3, iA E 50 fq7), (x9, iA E 102 ke)]) 3 rfl (by omega) (by decide) dX12_takes_88 (fun _ _ => rfl) (fun fq7 efq7 => ?_)
                      obtain ⟨wq8, ewq8, rfl⟩ : ∃ z : Nat → Int32, z = upd g (42 + k3) (-9) ∧ fq7 = nowO z := ⟨_, rfl, efq7.trans (nowO_ub (by omega))⟩
                      refine g_iincN C (lv' := [(1, .int (nI (k3 + 1))), (0, .ref m0)]) dX12_takes_89 1 rfl (by decide) rfl ?_
                      refine g_goto C 49 dX12_takes_92 (by decide) ?_
                      refine g_sub (lv' := [(0, .ref m0), (1, .int (nI (k3 + 1)))]) [1, 0] rfl ?_
                      exact ihL49 (k3 + 1) wq8 (by omega) (by omega) (by rw [begA, ← hg, ewq8]; first | (rw [if_pos ⟨(inR_nI (by omega) (by omega)).mpr cq3, (inR_nI (by omega) (by omega)).mpr cq6⟩]; done) | (rw [if_neg (fun z => absurd ((inR_nI (by omega) (by omega)).mp z.1) (by omega))]; done) | (rw [if_neg (fun z => absurd ((inR_nI (by omega) (by omega)).mp z.2) (by omega))]; done))
                    · refine g_iload_n C dX12_takes_72 rfl 1 rfl ?_
                      refine g_aload_n C dX12_takes_73 rfl 0 rfl ?_
                      refine g_get C i12 0 rfl rfl 7 (by decide) (List.mem_of_getElem? (i := 1) rfl) rfl rfl dX12_takes_74 ?_
                      refine g_iconst C (nI 1) dX12_takes_77 (by decide) ?_
                      refine g_iald C 2 rfl (by omega) (by decide) dX12_takes_78 ?_
                      refine g_as (show u 1 = nI b by rw [hk9]; exact h1) ?_
                      refine g_icmp_geN C 86 dX12_takes_79 (by decide) (by omega) (by omega) (fun cq9 => ?_) (fun cq9 => ?_)
                      · refine g_bipush C ((-9)) dX12_takes_86 (by decide) ?_
                        refine g_iast C (ws' := fun fq10 => [(m0, oB 12 [.ref x0, .int (nI n), .int (nI Q.1), .int (nI Q.2.2.1), .int Q.2.1, .int Q.2.2.2, .ref x1, .ref x2, .ref x3, .ref x4, .int (nI und), .ref x5, .ref x6, .int (nI nt), .ref x7, .ref x8, .long tr, .ref x9]), (x1, iA E 21 rd), (x2, iA E 21 u), (x3, iA E 50 fq10), (x9, iA E 102 ke)]) 3 rfl (by omega) (by decide) dX12_takes_88 (fun _ _ => rfl) (fun fq10 efq10 => ?_)
                        obtain ⟨wq11, ewq11, rfl⟩ : ∃ z : Nat → Int32, z = upd g (42 + k3) (-9) ∧ fq10 = nowO z := ⟨_, rfl, efq10.trans (nowO_ub (by omega))⟩
                        refine g_iincN C (lv' := [(1, .int (nI (k3 + 1))), (0, .ref m0)]) dX12_takes_89 1 rfl (by decide) rfl ?_
                        refine g_goto C 49 dX12_takes_92 (by decide) ?_
                        refine g_sub (lv' := [(0, .ref m0), (1, .int (nI (k3 + 1)))]) [1, 0] rfl ?_
                        exact ihL49 (k3 + 1) wq11 (by omega) (by omega) (by rw [begA, ← hg, ewq11]; first | (rw [if_pos ⟨(inR_nI (by omega) (by omega)).mpr cq6, (inR_nI (by omega) (by omega)).mpr cq9⟩]; done) | (rw [if_neg (fun z => absurd ((inR_nI (by omega) (by omega)).mp z.1) (by omega))]; done) | (rw [if_neg (fun z => absurd ((inR_nI (by omega) (by omega)).mp z.2) (by omega))]; done))
                      · refine g_iload_n C dX12_takes_82 rfl 1 rfl ?_
                        refine g_goto C 88 dX12_takes_83 (by decide) ?_
                        refine g_iast C (ws' := fun fq12 => [(m0, oB 12 [.ref x0, .int (nI n), .int (nI Q.1), .int (nI Q.2.2.1), .int Q.2.1, .int Q.2.2.2, .ref x1, .ref x2, .ref x3, .ref x4, .int (nI und), .ref x5, .ref x6, .int (nI nt), .ref x7, .ref x8, .long tr, .ref x9]), (x1, iA E 21 rd), (x2, iA E 21 u), (x3, iA E 50 fq12), (x9, iA E 102 ke)]) 3 rfl (by omega) (by decide) dX12_takes_88 (fun _ _ => rfl) (fun fq12 efq12 => ?_)
                        obtain ⟨wq13, ewq13, rfl⟩ : ∃ z : Nat → Int32, z = upd g (42 + k3) (nI k3) ∧ fq12 = nowO z := ⟨_, rfl, efq12.trans (nowO_ub (by omega))⟩
                        refine g_iincN C (lv' := [(1, .int (nI (k3 + 1))), (0, .ref m0)]) dX12_takes_89 1 rfl (by decide) rfl ?_
                        refine g_goto C 49 dX12_takes_92 (by decide) ?_
                        refine g_sub (lv' := [(0, .ref m0), (1, .int (nI (k3 + 1)))]) [1, 0] rfl ?_
                        exact ihL49 (k3 + 1) wq13 (by omega) (by omega) (by rw [begA, ← hg, ewq13]; first | (rw [if_pos ⟨(inR_nI (by omega) (by omega)).mpr cq6, (inR_nI (by omega) (by omega)).mpr cq9⟩]; done) | (rw [if_neg (fun z => absurd ((inR_nI (by omega) (by omega)).mp z.1) (by omega))]; done) | (rw [if_neg (fun z => absurd ((inR_nI (by omega) (by omega)).mp z.2) (by omega))]; done))
              refine g_sub (lv' := [(0, .ref m0), (1, .int (nI 0))]) [1, 0] rfl ?_
              exact L49 (6 + 1 - 0) 0 (filA f (nI 0) 50) (by omega) (by omega) (rfl)
            · refine g_aload_n C dX12_takes_34 rfl 0 rfl ?_
              refine g_get C i12 0 rfl rfl 8 (by decide) (List.mem_of_getElem? (i := 3) rfl) rfl rfl dX12_takes_35 ?_
              refine g_iload_n C dX12_takes_38 rfl 1 rfl ?_
              refine g_iconst C (nI 0) dX12_takes_39 (by decide) ?_
              refine g_iast C (ws' := fun fq14 => [(m0, oB 12 [.ref x0, .int (nI n), .int (nI Q.1), .int (nI Q.2.2.1), .int Q.2.1, .int Q.2.2.2, .ref x1, .ref x2, .ref x3, .ref x4, .int (nI und), .ref x5, .ref x6, .int (nI nt), .ref x7, .ref x8, .long tr, .ref x9]), (x1, iA E 21 rd), (x2, iA E 21 u), (x3, iA E 50 fq14), (x9, iA E 102 ke)]) 3 rfl (by omega) (by decide) dX12_takes_40 (fun _ _ => rfl) (fun fq14 efq14 => ?_)
              refine g_iincN C (lv' := [(1, .int (nI (k2 + 1))), (0, .ref m0)]) dX12_takes_41 1 rfl (by decide) rfl ?_
              refine g_goto C 28 dX12_takes_44 (by decide) ?_
              refine g_sub (lv' := [(0, .ref m0), (1, .int (nI (k2 + 1)))]) [1, 0] rfl ?_
              exact ihL28 (k2 + 1) fq14 (by omega) (by omega) (by rw [efq14, hv, filA_s])
        refine g_sub (lv' := [(0, .ref m0), (1, .int (nI 0))]) [1, 0] rfl ?_
        exact L28 (50 + 1 - 0) 0 (nowO f) (by omega) (by omega) ((filA_0 (nowO f) (nI 0)).symm)
      · refine g_aload_n C dX12_takes_8 rfl 0 rfl ?_
        refine g_get C i12 0 rfl rfl 7 (by decide) (List.mem_of_getElem? (i := 1) rfl) rfl rfl dX12_takes_9 ?_
        refine g_iload_n C dX12_takes_12 rfl 1 rfl ?_
        refine g_aload_n C dX12_takes_13 rfl 0 rfl ?_
        refine g_get C i12 0 rfl rfl 6 (by decide) (List.mem_of_getElem? (i := 2) rfl) rfl rfl dX12_takes_14 ?_
        refine g_iload_n C dX12_takes_17 rfl 1 rfl ?_
        refine g_iald C 1 rfl (by omega) (by decide) dX12_takes_18 ?_
        refine g_iast C (ws' := fun fq15 => [(m0, oB 12 [.ref x0, .int (nI n), .int (nI Q.1), .int (nI Q.2.2.1), .int Q.2.1, .int Q.2.2.2, .ref x1, .ref x2, .ref x3, .ref x4, .int (nI und), .ref x5, .ref x6, .int (nI nt), .ref x7, .ref x8, .long tr, .ref x9]), (x1, iA E 21 rd), (x2, iA E 21 fq15), (x3, iA E 50 (nowO f)), (x9, iA E 102 ke)]) 2 rfl (by omega) (by decide) dX12_takes_19 (fun _ _ => rfl) (fun fq15 efq15 => ?_)
        refine g_iincN C (lv' := [(1, .int (nI (k + 1))), (0, .ref m0)]) dX12_takes_20 1 rfl (by decide) rfl ?_
        refine g_goto C 2 dX12_takes_23 (by decide) ?_
        refine g_sub (lv' := [(0, .ref m0), (1, .int (nI (k + 1)))]) [1, 0] rfl ?_
        exact ihL2 (k + 1) fq15 (by omega) (by omega) (by rw [efq15, hu, cpA_s])
  refine g_sub (lv' := [(0, .ref m0), (1, .int (nI 0))]) [1, 0] rfl ?_
  exact L2 (21 + 1 - 0) 0 pp (by omega) (by omega) ((cpA_0 rd pp).symm)

theorem p3 {α β γ : Type} {m : α × β × γ} {a : α} {b : β} {c : γ} (h : m = (a, b, c)) : m.1 = a ∧ m.2.1 = b ∧ m.2.2 = c := by subst h; exact ⟨rfl, rfl, rfl⟩
theorem p4 {α β γ δ : Type} {m : α × β × γ × δ} {a : α} {b : β} {c : γ} {d : δ} (h : m = (a, b, c, d)) : m.1 = a ∧ m.2.1 = b ∧ m.2.2.1 = c ∧ m.2.2.2 = d := by subst h; exact ⟨rfl, rfl, rfl, rfl⟩

set_option maxHeartbeats 4000000 in
set_option maxRecDepth 100000 in
theorem kX12_court (l : Launch) (E : EX) (m0 x0 x1 x2 x3 x4 x5 x6 x7 x8 x9 n und nt : Nat) (tr : Int64) (Q : RS) (tx rd pp f ke : Nat → Int32) (hn : n ≤ 200) : M l E yX12_court wsX12_court { frames := 6, cells := 0, slots := 0, locals := 130 } 0 0 [.ref m0] [(m0, oB 12 [.ref x0, .int (nI n), .int (nI Q.1), .int (nI Q.2.2.1), .int Q.2.1, .int Q.2.2.2, .ref x1, .ref x2, .ref x3, .ref x4, .int (nI und), .ref x5, .ref x6, .int (nI nt), .ref x7, .ref x8, .long tr, .ref x9]), (x0, iA E 200 tx), (x1, iA E 21 rd), (x2, iA E 21 pp), (x3, iA E 50 (nowO f)), (x9, iA E 102 ke)] (fun v w1 => (((mA tx n Q rd).1 = false ∧ v = some (.int (mA tx n Q rd).2.1) ∧ w1 = [(m0, oB 12 [.ref x0, .int (nI n), .int (nI (((mA tx n Q rd).2.2.1).1)), .int (nI (((mA tx n Q rd).2.2.1).2.2.1)), .int (((mA tx n Q rd).2.2.1).2.1), .int (((mA tx n Q rd).2.2.1).2.2.2), .ref x1, .ref x2, .ref x3, .ref x4, .int (nI und), .ref x5, .ref x6, .int (nI nt), .ref x7, .ref x8, .long tr, .ref x9]), (x0, iA E 200 tx), (x1, iA E 21 ((mA tx n Q rd).2.2.2)), (x2, iA E 21 pp), (x3, iA E 50 (nowO f)), (x9, iA E 102 ke)]) ∨ ((mA tx n Q rd).1 = true ∧ v = some (.int (mA tx n Q rd).2.1) ∧ w1 = [(m0, oB 12 [.ref x0, .int (nI 0), .int (nI (((mA tx n Q rd).2.2.1).1)), .int (nI (((mA tx n Q rd).2.2.1).2.2.1)), .int (((mA tx n Q rd).2.2.1).2.1), .int (((mA tx n Q rd).2.2.1).2.2.2), .ref x1, .ref x2, .ref x3, .ref x4, .int (nI 0), .ref x5, .ref x6, .int (nI 0), .ref x7, .ref x8, .long tr, .ref x9]), (x0, iA E 200 tx), (x1, iA E 21 ((mA tx n Q rd).2.2.2)), (x2, iA E 21 (cpA (mA tx n Q rd).2.2.2 pp 21)), (x3, iA E 50 (nowO (begA f (npR (mA tx n Q rd).2.2.2) (plR (mA tx n Q rd).2.2.2) 6))), (x9, iA E 102 (upd (upd ke 0 (nI 0)) 51 (nI 0)))]))) := by
  refine M.ofG (cc := cX12_court) (maxL := 2) (ret := (some .int)) (lv := [(0, .ref m0)]) (own := RX12) (by decide) rfl rfl (Nat.le_of_ble_eq_true rfl) rfl ?_
  intro K C X _
  have i12 : ∀ w ∈ wsX120, w ∈ wsX12_court := by decide +kernel
  refine g_aload_n C dX12_court_0 rfl 0 rfl ?_
  refine g_callV C (rest := []) (n := 0) (kX12_plain l E m0 x0 x1 x2 x3 x4 x5 x6 x7 x8 x9 n und nt tr Q rd ) gX12_court_X12_plain rfl ⟨rfl, rfl⟩ (by decide) (Nat.le_of_ble_eq_true rfl) rfl (by decide +kernel) rfl dX12_court_1 0 rfl rfl [0, 2] [1, 3, 4, 5] rfl rfl ?_
  refine g_is1 (ws2 := [(m0, oB 12 [.ref x0, .int (nI n), .int (nI Q.1), .int (nI Q.2.2.1), .int Q.2.1, .int Q.2.2.2, .ref x1, .ref x2, .ref x3, .ref x4, .int (nI und), .ref x5, .ref x6, .int (nI nt), .ref x7, .ref x8, .long tr, .ref x9]), (x0, iA E 200 tx), (x1, iA E 21 (plnS rd)), (x2, iA E 21 pp), (x3, iA E 50 (nowO f)), (x9, iA E 102 ke)]) (st2 := []) [4, 0, 5, 1, 2, 3] rfl rfl rfl ?_
  refine g_aload_n C dX12_court_4 rfl 0 rfl ?_
  refine g_iconst C (nI 0) dX12_court_5 (by decide) ?_
  refine g_put C i12 tyX12 tyX12_ok nmX12 0 rfl rfl 2 (by decide) (List.mem_of_getElem? (i := 1) rfl) rfl rfl rfl rfl rfl (Nat.le_of_ble_eq_true rfl) dX12_court_6 (ws' := [(m0, oB 12 [.ref x0, .int (nI n), .int (nI 0), .int (nI Q.2.2.1), .int Q.2.1, .int Q.2.2.2, .ref x1, .ref x2, .ref x3, .ref x4, .int (nI und), .ref x5, .ref x6, .int (nI nt), .ref x7, .ref x8, .long tr, .ref x9]), (x0, iA E 200 tx), (x1, iA E 21 (plnS rd)), (x2, iA E 21 pp), (x3, iA E 50 (nowO f)), (x9, iA E 102 ke)]) rfl ?_
  refine g_iconst C (nI 0) dX12_court_9 (by decide) ?_
  refine g_istore_n C (lv' := [(1, .int (nI 0)), (0, .ref m0)]) dX12_court_10 rfl (by decide) rfl ?_
  refine g_aload_n C dX12_court_11 rfl 1 rfl ?_
  refine g_callV C (rest := []) (n := 0) (kX12_reads l E m0 x0 x1 x2 x3 x4 x5 x6 x7 x8 x9 n und nt tr (0, Q.2.1, Q.2.2.1, Q.2.2.2) tx (hn) (Nat.zero_le _)) gX12_court_X12_reads rfl ⟨rfl, rfl⟩ (by decide) (Nat.le_of_ble_eq_true rfl) rfl (by decide +kernel) rfl dX12_court_12 0 rfl rfl [0, 1] [2, 3, 4, 5] rfl rfl ?_
  refine g_is1 (ws2 := [(m0, oB 12 [.ref x0, .int (nI n), .int (nI ((rdv tx n (0, Q.2.1, Q.2.2.1, Q.2.2.2)).1)), .int (nI ((rdv tx n (0, Q.2.1, Q.2.2.1, Q.2.2.2)).2.2.1)), .int ((rdv tx n (0, Q.2.1, Q.2.2.1, Q.2.2.2)).2.1), .int ((rdv tx n (0, Q.2.1, Q.2.2.1, Q.2.2.2)).2.2.2), .ref x1, .ref x2, .ref x3, .ref x4, .int (nI und), .ref x5, .ref x6, .int (nI nt), .ref x7, .ref x8, .long tr, .ref x9]), (x0, iA E 200 tx), (x1, iA E 21 (plnS rd)), (x2, iA E 21 pp), (x3, iA E 50 (nowO f)), (x9, iA E 102 ke)]) (st2 := []) [4, 5, 0, 1, 2, 3] rfl rfl rfl ?_
  have L15 : ∀ (zz k : Nat) (Z : RS) (g : Nat → Int32), k + zz = 201 + 1 → k ≤ 201 → (mL tx n (201 - k) k Z g = mA tx n Q rd) → (Z.1 ≤ n) → (k ≤ Z.1) → (g 0 = nI (npR g)) → (npR g ≤ 6) → (g 1 = nI (plR g)) → (plR g ≤ 6) → G K 0 0 15 [(0, .ref m0), (1, .int (nI k))] [] [(m0, oB 12 [.ref x0, .int (nI n), .int (nI Z.1), .int (nI Z.2.2.1), .int Z.2.1, .int Z.2.2.2, .ref x1, .ref x2, .ref x3, .ref x4, .int (nI und), .ref x5, .ref x6, .int (nI nt), .ref x7, .ref x8, .long tr, .ref x9]), (x0, iA E 200 tx), (x1, iA E 21 g), (x2, iA E 21 pp), (x3, iA E 50 (nowO f)), (x9, iA E 102 ke)] := by
    intro zz
    induction zz with
    | zero => intro k Z g hL15 gL15; exfalso; omega
    | succ zz ihL15 =>
      intro k Z g hL15 gL15 hr hz hkz hg0 hg6 hg1 hg7
      refine g_aload_n C dX12_court_15 rfl 0 rfl ?_
      refine g_get C i12 0 rfl rfl 4 (by decide) (List.mem_of_getElem? (i := 2) rfl) rfl rfl dX12_court_16 ?_
      refine g_if_eq C 48 dX12_court_19 (by decide) (fun cq1 => ?_) (fun cq1 => ?_)
      · have hv := p4 (hr.symm.trans (mL_end cq1 _))
        refine g_aload_n C dX12_court_48 rfl 0 rfl ?_
        refine g_iconst C (nI 0) dX12_court_49 (by decide) ?_
        refine g_put C i12 tyX12 tyX12_ok nmX12 0 rfl rfl 1 (by decide) (List.mem_of_getElem? (i := 4) rfl) rfl rfl rfl rfl rfl (Nat.le_of_ble_eq_true rfl) dX12_court_50 (ws' := [(m0, oB 12 [.ref x0, .int (nI 0), .int (nI Z.1), .int (nI Z.2.2.1), .int Z.2.1, .int Z.2.2.2, .ref x1, .ref x2, .ref x3, .ref x4, .int (nI und), .ref x5, .ref x6, .int (nI nt), .ref x7, .ref x8, .long tr, .ref x9]), (x0, iA E 200 tx), (x1, iA E 21 g), (x2, iA E 21 pp), (x3, iA E 50 (nowO f)), (x9, iA E 102 ke)]) rfl ?_
        refine g_aload_n C dX12_court_53 rfl 0 rfl ?_
        refine g_callV C (rest := []) (n := 0) (kX12_takes l E m0 x0 x1 x2 x3 x4 x5 x6 x7 x8 x9 0 und nt tr Z g pp f ke (npR g) (plR g) (hg0) (hg1) (hg6) (hg7)) gX12_court_X12_takes rfl ⟨rfl, rfl⟩ (by decide) (Nat.le_of_ble_eq_true rfl) rfl (by decide +kernel) rfl dX12_court_54 0 rfl rfl [0, 2, 3, 4, 5] [1] rfl rfl ?_
        refine g_is1 (ws2 := [(m0, oB 12 [.ref x0, .int (nI 0), .int (nI Z.1), .int (nI Z.2.2.1), .int Z.2.1, .int Z.2.2.2, .ref x1, .ref x2, .ref x3, .ref x4, .int (nI 0), .ref x5, .ref x6, .int (nI 0), .ref x7, .ref x8, .long tr, .ref x9]), (x0, iA E 200 tx), (x1, iA E 21 g), (x2, iA E 21 (cpA g pp 21)), (x3, iA E 50 (nowO (begA f (npR g) (plR g) 6))), (x9, iA E 102 (upd (upd ke 0 (nI 0)) 51 (nI 0)))]) (st2 := []) [1, 0, 2, 3, 4, 5] rfl rfl rfl ?_
        refine g_iload_n C dX12_court_57 rfl 1 rfl ?_
        exact g_iret C X dX12_court_58 (Or.inr ⟨hv.1, by rw [hv.2.1], by rw [hv.2.2.1, hv.2.2.2]⟩)
      · refine g_aload_n C dX12_court_22 rfl 0 rfl ?_
        refine g_iload_n C dX12_court_23 rfl 1 rfl ?_
        refine g_callV C (rest := []) (n := 1) (kX12_readItem l E m0 x0 x1 x2 x3 x4 x5 x6 x7 x8 x9 n und nt tr Z tx g k (hn) (hz) (by omega) (hg0) (hg6)) gX12_court_X12_readItem rfl ⟨rfl, rfl⟩ (by decide) (Nat.le_of_ble_eq_true rfl) rfl (by decide +kernel) rfl dX12_court_24 0 rfl rfl [0, 1, 2] [3, 4, 5] rfl rfl ?_
        refine g_is1 (ws2 := [(m0, oB 12 [.ref x0, .int (nI n), .int (nI (((mI tx n k Z g).2.1).1)), .int (nI (((mI tx n k Z g).2.1).2.2.1)), .int (((mI tx n k Z g).2.1).2.1), .int (((mI tx n k Z g).2.1).2.2.2), .ref x1, .ref x2, .ref x3, .ref x4, .int (nI und), .ref x5, .ref x6, .int (nI nt), .ref x7, .ref x8, .long tr, .ref x9]), (x0, iA E 200 tx), (x1, iA E 21 ((mI tx n k Z g).2.2)), (x2, iA E 21 pp), (x3, iA E 50 (nowO f)), (x9, iA E 102 ke)]) (st2 := [.int ((mI tx n k Z g).1)]) [3, 4, 5, 0, 1, 2] rfl rfl rfl ?_
        refine g_if_ne C 38 dX12_court_27 (by decide) (fun cq2 => ?_) (fun cq2 => ?_)
        · refine g_iincN C (lv' := [(1, .int (nI (k + 1))), (0, .ref m0)]) dX12_court_38 1 rfl (by decide) rfl ?_
          refine g_aload_n C dX12_court_41 rfl 1 rfl ?_
          refine g_callV C (rest := []) (n := 0) (kX12_reads l E m0 x0 x1 x2 x3 x4 x5 x6 x7 x8 x9 n und nt tr ((mI tx n k Z g).2.1) tx (hn) ((mI_ok hz hg0 hg6 cq2).2.1)) gX12_court_X12_reads rfl ⟨rfl, rfl⟩ (by decide) (Nat.le_of_ble_eq_true rfl) rfl (by decide +kernel) rfl dX12_court_42 0 rfl rfl [0, 1] [2, 3, 4, 5] rfl rfl ?_
          refine g_is1 (ws2 := [(m0, oB 12 [.ref x0, .int (nI n), .int (nI ((rdv tx n ((mI tx n k Z g).2.1)).1)), .int (nI ((rdv tx n ((mI tx n k Z g).2.1)).2.2.1)), .int ((rdv tx n ((mI tx n k Z g).2.1)).2.1), .int ((rdv tx n ((mI tx n k Z g).2.1)).2.2.2), .ref x1, .ref x2, .ref x3, .ref x4, .int (nI und), .ref x5, .ref x6, .int (nI nt), .ref x7, .ref x8, .long tr, .ref x9]), (x0, iA E 200 tx), (x1, iA E 21 ((mI tx n k Z g).2.2)), (x2, iA E 21 pp), (x3, iA E 50 (nowO f)), (x9, iA E 102 ke)]) (st2 := []) [4, 5, 0, 1, 2, 3] rfl rfl rfl ?_
          refine g_goto C 15 dX12_court_45 (by decide) ?_
          refine g_sub (lv' := [(0, .ref m0), (1, .int (nI (k + 1)))]) [1, 0] rfl ?_
          exact ihL15 (k + 1) (rdv tx n ((mI tx n k Z g).2.1)) ((mI tx n k Z g).2.2) (by omega) (by omega) (by rw [← hr, show 201 - k = (201 - (k + 1)) + 1 by omega]; exact (mL_go cq1 cq2).symm) ((rdv_le (mI_ok hz hg0 hg6 cq2).2.1).1) (by have h1 := mI_ok hz hg0 hg6 cq2; have h2 := rdv_le (tx := tx) h1.2.1; omega) ((mI_ok hz hg0 hg6 cq2).2.2.1) ((mI_ok hz hg0 hg6 cq2).2.2.2) ((mI_pl hg1 hg7 cq2).1) ((mI_pl hg1 hg7 cq2).2)
        · have hv := p3 (hr.symm.trans ((congrArg (fun z => mL tx n z k Z g) (show 201 - k = (201 - (k + 1)) + 1 by omega)).trans (mL_no cq1 cq2)))
          refine g_bipush C ((-10)) dX12_court_30 (by decide) ?_
          refine g_aload_n C dX12_court_32 rfl 0 rfl ?_
          refine g_get C i12 0 rfl rfl 3 (by decide) (List.mem_of_getElem? (i := 3) rfl) rfl rfl dX12_court_33 ?_
          refine g_isub C dX12_court_36 ?_
          exact g_iret C X dX12_court_37 (Or.inl ⟨hv.1, by rw [hv.2.1], by rw [hv.2.2]⟩)
  refine g_sub (lv' := [(0, .ref m0), (1, .int (nI 0))]) [1, 0] rfl ?_
  exact L15 (201 + 1 - 0) 0 (rdv tx n (0, Q.2.1, Q.2.2.1, Q.2.2.2)) (plnS rd) (by omega) (by omega) (rfl) ((rdv_le (Nat.zero_le _)).1) (Nat.zero_le _) ((pln_np rd).1) ((pln_np rd).2) ((pln_pl rd).1) ((pln_pl rd).2)
