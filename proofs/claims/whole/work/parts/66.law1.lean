/-! the law: what holds between both sides; the script; the end -/
def INV (n : Nat) (T : TS) (f : Nat → Int32) (und top : Nat) (pa un im kp ke : Nat → Int32) (nt : Nat) (no : Nat → Int32) : Prop :=
  n ≤ 200 ∧ TI T ∧ SI T f ∧ und ≤ 10 ∧ top < 10 ∧ UI T pa un und top ∧ II T im kp ke ∧ nt ≤ 5 ∧ ∀ k, k < nt → inR (n1O no k) 6
section INVS
variable {n : Nat} {T : TS} {f : Nat → Int32} {und top : Nat} {pa un im kp ke : Nat → Int32} {nt : Nat} {no : Nat → Int32}
theorem INV_do {O : Prop} [Decidable O] {F : Nat → Int32} (h : INV n T f und top pa un im kp ke nt no) (hF : O → SI T F) : INV n T (if O then F else f) (if O then min (und + 1) 10 else und) (if O then (top + 1) % 10 else top) (if O then va_cpy f pa 0 (top * 50) 50 else pa) (if O then unK un f und else un) im kp ke nt no := by
  by_cases c : O
  · simp only [if_pos c]
    obtain ⟨h1, h2, h3, h4, h5, h6, h7⟩ := h
    exact ⟨h1, h2, hF c, Nat.min_le_right _ _, Nat.mod_lt _ (by decide), UI_rem h4 h5 h3 h6, h7⟩
  · simp only [if_neg c]; exact h
theorem INV_type (h : INV n T f und top pa un im kp ke nt no) (x : Int32) : INV (if tyO n x then n + 1 else n) T f und top pa un im kp ke nt no := by
  by_cases c : tyO n x
  · rw [if_pos c]; exact ⟨c.2.2, h.2⟩
  · rw [if_neg c]; exact h
theorem INV_clear (h : INV n T f und top pa un im kp ke nt no) : INV 0 T f und top pa un im kp ke nt no := ⟨Nat.zero_le _, h.2⟩
theorem INV_notes (h : INV n T f und top pa un im kp ke nt no) (q t x : Int32) : INV n T f und top pa un im kp ke (if ntO T.2.1 nt q t x then nt + 1 else nt) (if ntO T.2.1 nt q t x then noN no nt q t x else no) := by
  by_cases c : ntO T.2.1 nt q t x
  · simp only [if_pos c]
    obtain ⟨h1, h2, h3, h4, h5, h6, h7, h8, h9⟩ := h
    refine ⟨h1, h2, h3, h4, h5, h6, h7, c.2.2.2, fun k hk => ?_⟩
    rw [noN_1]
    by_cases d : k = nt
    · subst d
      rw [pk_us]
      have hm := h2.2.2.1
      obtain ⟨j, hj, e⟩ := inR_of (by omega) c.1
      rw [e]; exact (inR_nI (by omega) (by decide)).mpr (by omega)
    · rw [pk_un d]; exact h9 k (by omega)
  · simp only [if_neg c]; exact h
theorem nt1 (O : Prop) [Decidable O] (q t x : Int32) : (if O then upd (n1O no) nt q else n1O no) = n1O (if O then noN no nt q t x else no) := by
  by_cases c : O
  · rw [if_pos c, if_pos c, noN_1]
  · rw [if_neg c, if_neg c]
theorem nt2 (O : Prop) [Decidable O] (q t x : Int32) : (if O then upd (n2O no) nt t else n2O no) = n2O (if O then noN no nt q t x else no) := by
  by_cases c : O
  · rw [if_pos c, if_pos c, noN_2]
  · rw [if_neg c, if_neg c]
theorem nt3 (O : Prop) [Decidable O] (q t x : Int32) : (if O then upd (n3O no) nt x else n3O no) = n3O (if O then noN no nt q t x else no) := by
  by_cases c : O
  · rw [if_pos c, if_pos c, noN_3]
  · rw [if_neg c, if_neg c]
theorem INV_forget (h : INV n T f und top pa un im kp ke nt no) : INV n T f und top pa un im kp ke 0 no := by
  obtain ⟨h1, h2, h3, h4, h5, h6, h7, h8, h9⟩ := h
  exact ⟨h1, h2, h3, h4, h5, h6, h7, Nat.zero_le _, fun k hk => absurd hk (Nat.not_lt_zero k)⟩
theorem zo_j {x : Int32} (h : zo x) : ∃ j, j < 2 ∧ x = nI j ∧ x.toNatClampNeg = j := by
  rcases h with h | h
  · exact ⟨0, by decide, h, by rw [h, nI_clamp (by decide)]⟩
  · exact ⟨1, by decide, h, by rw [h, nI_clamp (by decide)]⟩
theorem INV_keep (h : INV n T f und top pa un im kp ke nt no) (x : Int32) : INV n T f und top pa un (if zo x then va_cpy f im 0 (x.toNatClampNeg * 50) 50 else im) (if zo x then upd kp x.toNatClampNeg (nI 1) else kp) (if zo x then keN ke f x.toNatClampNeg else ke) nt no := by
  by_cases c : zo x
  · simp only [if_pos c]
    obtain ⟨j, hj, -, e⟩ := zo_j c
    obtain ⟨h1, h2, h3, h4, h5, h6, h7, h8⟩ := h
    rw [e]
    exact ⟨h1, h2, h3, h4, h5, h6, II_keep hj h3 h7, h8⟩
  · simp only [if_neg c]; exact h
theorem bk_iff (h : INV n T f und top pa un im kp ke nt no) (x : Int32) : (zo x ∧ ¬ ke (51 * x.toNatClampNeg) = 0) ↔ (zo x ∧ ¬ kp x.toNatClampNeg = 0) := by
  constructor
  · intro c
    obtain ⟨j, hj, -, e⟩ := zo_j c.1
    refine ⟨c.1, fun z => c.2 ?_⟩
    rw [e] at z ⊢
    exact (h.2.2.2.2.2.2.1 j hj).1.mp z
  · intro c
    obtain ⟨j, hj, -, e⟩ := zo_j c.1
    refine ⟨c.1, fun z => c.2 ?_⟩
    rw [e] at z ⊢
    exact (h.2.2.2.2.2.2.1 j hj).1.mpr z
theorem bk_und (h : INV n T f und top pa un im kp ke nt no) (x : Int32) : (if zo x ∧ ¬ ke (51 * x.toNatClampNeg) = 0 then 0 else und) = (if zo x ∧ ¬ kp x.toNatClampNeg = 0 then 0 else und) := by
  by_cases c : zo x ∧ ¬ kp x.toNatClampNeg = 0
  · rw [if_pos c, if_pos ((bk_iff h x).mpr c)]
  · rw [if_neg c, if_neg (fun z => c ((bk_iff h x).mp z))]
theorem bk_now (h : INV n T f und top pa un im kp ke nt no) (x : Int32) : (if zo x ∧ ¬ ke (51 * x.toNatClampNeg) = 0 then cpA (fun i => ke (51 * x.toNatClampNeg + 1 + i)) (nowO f) 50 else nowO f) = nowO (if zo x ∧ ¬ kp x.toNatClampNeg = 0 then va_cpy im f (x.toNatClampNeg * 50) 0 50 else f) := by
  by_cases c : zo x ∧ ¬ kp x.toNatClampNeg = 0
  · rw [if_pos c, if_pos ((bk_iff h x).mpr c)]
    obtain ⟨j, hj, -, e⟩ := zo_j c.1
    rw [e] at c ⊢
    exact (II_back f hj h.2.2.2.2.2.2.1 c.2).1
  · rw [if_neg c, if_neg (fun z => c ((bk_iff h x).mp z))]
theorem bk_ans (h : INV n T f und top pa un im kp ke nt no) (x : Int32) : (if zo x then (if kp x.toNatClampNeg = 0 then (-2) else va_cpy im f (x.toNatClampNeg * 50) 0 50 49) else (-1)) = (if zo x then (if ke (51 * x.toNatClampNeg) = 0 then (-2) else ke (51 * x.toNatClampNeg + 1)) else (-1)) := by
  by_cases c : zo x
  · rw [if_pos c, if_pos c]
    obtain ⟨j, hj, -, e⟩ := zo_j c
    have hII := h.2.2.2.2.2.2.1
    rw [e]
    by_cases d : kp j = 0
    · rw [if_pos d, if_pos ((hII j hj).1.mp d)]
    · rw [if_neg d, if_neg (fun z => d ((hII j hj).1.mpr z))]
      exact (II_back f hj hII d).2.2.symm
  · rw [if_neg c, if_neg c]
theorem INV_back (h : INV n T f und top pa un im kp ke nt no) (x : Int32) : INV n T (if zo x ∧ ¬ kp x.toNatClampNeg = 0 then va_cpy im f (x.toNatClampNeg * 50) 0 50 else f) (if zo x ∧ ¬ kp x.toNatClampNeg = 0 then 0 else und) top pa un im kp ke nt no := by
  by_cases c : zo x ∧ ¬ kp x.toNatClampNeg = 0
  · simp only [if_pos c]
    obtain ⟨j, hj, -, e⟩ := zo_j c.1
    rw [e] at c ⊢
    obtain ⟨h1, h2, h3, h4, h5, h6, h7, h8⟩ := h
    exact ⟨h1, h2, (II_back f hj h7 c.2).2.1, Nat.zero_le _, h5, UI_new _ _ _ _, h7, h8⟩
  · simp only [if_neg c]; exact h
theorem un_now (h : INV n T f und top pa un im kp ke nt no) : (if und = 0 then nowO f else cpA (fun i => un (50 * (und - 1) + i)) (nowO f) 50) = nowO (if und = 0 then f else va_cpy pa f ((top + 10 - 1) % 10 * 50) 0 50) := by
  by_cases c : und = 0
  · rw [if_pos c, if_pos c]
  · rw [if_neg c, if_neg c]
    exact (UI_undo c h.2.2.2.1 h.2.2.2.2.1 h.2.2.2.2.2.1).1
theorem INV_undo (h : INV n T f und top pa un im kp ke nt no) : INV n T (if und = 0 then f else va_cpy pa f ((top + 10 - 1) % 10 * 50) 0 50) (und - 1) (if und = 0 then top else (top + 10 - 1) % 10) pa un im kp ke nt no := by
  by_cases c : und = 0
  · simp only [if_pos c]
    rw [show und - 1 = und by omega]
    exact h
  · simp only [if_neg c]
    obtain ⟨h1, h2, h3, h4, h5, h6, h7, h8⟩ := h
    obtain ⟨-, k2, k3⟩ := UI_undo (f := f) c h4 h5 h6
    exact ⟨h1, h2, k2, by omega, Nat.mod_lt _ (by decide), k3, h7, h8⟩
theorem INV_court (h : INV n T f und top pa un im kp ke nt no) {U : TS} (hU : TI U) (x : Nat) : INV 0 U (begA f U.1 U.2.1 6) 0 top pa un im (filA kp (nI 0) 2) (upd (upd ke 0 (nI 0)) 51 (nI 0)) 0 no :=
  ⟨Nat.zero_le _, hU, SI_beg f hU.1 hU.2.2.1, Nat.zero_le _, h.2.2.2.2.1, UI_new _ _ _ _, II_new _ _ _ _, Nat.zero_le _, fun k hk => absurd hk (Nat.not_lt_zero k)⟩
end INVS
abbrev T00 : TS := (0, 3, zF, zF, zF)
theorem TI_00 : TI T00 := by
  refine ⟨show 0 ≤ 6 by decide, show 1 ≤ 3 by decide, show 3 ≤ 6 by decide, fun p hp => absurd hp (Nat.not_lt_zero p), fun p hp => absurd hp (Nat.not_lt_zero p), fun t ht => s7_0, fun a b ha hb => ?_, fun a ha => ?_⟩
  · show tb (nI 0) b = tb (nI 0) a
    rw [tb_00 b hb, tb_00 a ha]
  · exact tb_00 a ha
theorem PR_00 : PR T00 (plnS zF) := by
  have e : filA zF (nI 0) 7 = zF := by funext k; unfold filA zF; split <;> rfl
  have h := PR_pln zF zF zF zF
  rw [e] at h
  exact h
theorem pap_z : cpA (plnS zF) zF 21 = papO T00 := by
  funext k
  unfold cpA
  by_cases c : k < 21
  · rw [if_pos c]; exact PR_00 k c
  · rw [if_neg c]
    unfold papO
    rw [if_neg (by omega), if_neg (by omega), if_neg (by omega), if_neg (by omega)]
    rfl
theorem INV_0 : INV 0 T00 (begA zF 0 3 6) 0 0 zF zF zF zF (upd (upd zF 0 (nI 0)) 51 (nI 0)) 0 zF := by
  have e : filA zF (nI 0) 2 = zF := by funext k; unfold filA zF; split <;> rfl
  have h := II_new T00 zF zF zF
  rw [e] at h
  exact ⟨Nat.zero_le _, TI_00, SI_beg (T := T00) zF (show 0 ≤ 6 by decide) (show 3 ≤ 6 by decide), Nat.zero_le _, by decide, UI_new _ _ _ _, h, Nat.zero_le _, fun k hk => absurd hk (Nat.not_lt_zero k)⟩
/-- the script -/
def XX (K : KX) (b L : Nat) (xs : Nat → Int32) : Prop :=
  match K with
  | (_, _, _, _, s, _, _, _, _, _, _, A, _, _) => va_X b L xs s s.heap ∧ b < s.heap.size ∧ ¬ A b
section GR4
variable {K : KX} {l0 : Launch} {E0 : EX} {own : String} {Ts : List Cond} {cc : ByteArray} {rm : Room} {n0 cs sl pc : Nat} {lv lv' : List (Nat × Value)} {st : List Value} {ws ws' : va_W} {b L : Nat} {xs : Nat → Int32}
theorem g_sld (C : CX K l0 E0 own Ts cc rm n0) (Y : XX K b L xs) {k : Nat} (hk : k < L) (hL : L < 2 ^ 31) (hdg : decode cc pc = .ok (.iaload, 1)) (kk : G K cs sl (pc + 1) lv (.int (xs k) :: st) ws) : G K cs sl pc lv (.int (nI k) :: .ref b :: st) ws := by
  obtain ⟨p, l, e, R, s, m, args, below, meth, c, E, A, nL, Q⟩ := K
  obtain ⟨hx, hb, hml, hown, hts, hK, hA, rfl, rfl, rfl, rfl⟩ := C
  obtain ⟨y1, y2, y3⟩ := Y
  obtain ⟨h1, h2⟩ := clN hk hL
  exact fun H locs ls hP hD hS h => va_sld hx hb y1 y2 y3 hS h1 hdg (by rw [h2]; exact kk H locs ls hP hD hS h)
theorem g_slen (C : CX K l0 E0 own Ts cc rm n0) (Y : XX K b L xs) (hdg : decode cc pc = .ok (.arraylength, 1)) (kk : G K cs sl (pc + 1) lv (.int (nI L) :: st) ws) : G K cs sl pc lv (.ref b :: st) ws := by
  obtain ⟨p, l, e, R, s, m, args, below, meth, c, E, A, nL, Q⟩ := K
  obtain ⟨hx, hb, hml, hown, hts, hK, hA, rfl, rfl, rfl, rfl⟩ := C
  obtain ⟨y1, y2, y3⟩ := Y
  exact fun H locs ls hP hD hS h => va_slen hx hb y1 y2 y3 hS hdg (kk H locs ls hP hD hS h)
end GR4
theorem ts_out30 {x : Int32} (h : ∀ j, j < 30 → ¬ x = nI j) : x.toInt < 0 ∨ 29 < x.toInt := by
  by_cases c : x.toInt < 0
  · exact Or.inl c
  · by_cases d : 29 < x.toInt
    · exact Or.inr d
    · have e := toInt_ne (x := x) (j := x.toInt.toNat) (by omega) (h x.toInt.toNat (by omega))
      exact absurd (by omega) e
theorem neg5 : ∀ L, L < 5 → nI L - nI 5 < 0 := by decide +kernel
theorem len5 {L i : Nat} (hL : L ≤ 320) (hi : i ≤ 330) : nI L - nI 5 < nI i ↔ L < i + 5 := by
  by_cases c : 5 ≤ L
  · rw [pk_sub c, nI_ltI (by omega) (by omega)]; omega
  · have h1 := neg5 L (by omega)
    have h2 : nI L - nI 5 < nI i := Int32.lt_of_lt_of_le h1 (nI_pos' (by omega))
    exact ⟨fun _ => by omega, fun _ => h2⟩
