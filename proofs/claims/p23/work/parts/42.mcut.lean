/-! the model: cut -/
def smM (It : Nat → Int32) (kk st : Nat) (M : Nat → Nat) (a j : Nat) : Nat → Int64
  | 0 => 0
  | n + 1 => smM It kk st M a j n + fHd It kk st (tmF M (a + n) j)
def meanM (It : Nat → Int32) (kk st : Nat) (M : Nat → Nat) (a c j : Nat) : Int32 := (fDn (smM It kk st M a j c) (lN c)).toInt32
theorem updL_s {f : Nat → Int64} {k : Nat} {x : Int64} : vp_updL f k x k = x := by simp [vp_updL]
theorem updL_n {f : Nat → Int64} {k j : Nat} {x : Int64} (h : j ≠ k) : vp_updL f k x j = f j := by simp [vp_updL, h]
theorem tm_le {M : Nat → Nat} {a j n : Nat} (h1 : M a < M (a + 1)) (h2 : M (a + 1) ≤ 1000000) (hj : j ≤ 32) : tmF M a j ≤ 1000000 := by
  unfold tmF
  have h3 : (M (a + 1) - M a) * j ≤ (M (a + 1) - M a) * 32 := Nat.mul_le_mul_left _ hj
  have h4 : (M (a + 1) - M a) * j / 32 ≤ M (a + 1) - M a := by
    have h5 := Nat.div_le_div_right (c := 32) h3
    rwa [Nat.mul_div_cancel _ (by omega)] at h5
  omega
theorem hd_ix {t n st : Nat} (hn1 : 1 ≤ n) (hn : n ≤ 200) (hs : 1 ≤ st) (h : t ≤ (n - 1) * st) : t / st < 200 ∧ (¬ t % st = 0 → t / st + 1 < 200) := by
  have hq1 : t / st ≤ n - 1 := by
    have h9 := Nat.div_le_div_right (c := st) h
    rwa [Nat.mul_div_cancel _ (by omega)] at h9
  refine ⟨by omega, fun hm => ?_⟩
  rcases Nat.lt_or_ge (t / st) (n - 1) with g | g
  · omega
  · exfalso
    have e9 : t / st = n - 1 := by omega
    have h8 := Nat.div_add_mod t st
    rw [e9, Nat.mul_comm] at h8
    omega

set_option maxHeartbeats 1000000 in
set_option maxRecDepth 100000 in
theorem c_X9_cut_no (l : Launch) (E : EnvT) (sz : Nat) (m0 : Nat) (sh : Int32) (rO : Nat) (rU : Nat) (rT : Nat) (rg : Int32) (rS : Nat) (rB : Nat) (rP : Nat) (rG : Nat) (ab0 : Int64) (be0 : Int64) (mk : Int32) (rM : Nat) (md : Int32) (rN : Nat) (rL : Nat) (rZ : Nat) (rE : Nat) (rI : Nat) (hc : Int32) (rA : Nat) (rX : Nat) (lnn : Int32) (rV : Nat) (rW : Nat) (sl : Int32) (rC : Nat) (rF : Nat) (rQ : Nat) (rK : Nat) (rR : Nat) (rD : Nat) (sv : Int32) (tv : Int32) (cv : Int32) (hno : ¬ ((0 ≤ sv ∧ sv ≤ 3) ∧ (¬ tv < 0) ∧ (1 ≤ cv ∧ cv ≤ 40))) : Met l yX9_cut wsX9_cut ({ frames := 1, cells := 0, slots := 0, locals := 25 }) (va_Pc [.ref m0, .int sv, .int tv, .int cv] (PW E [(m0, .inr (9, [.int sh, .ref rO, .ref rU, .ref rT, .int rg, .ref rS, .ref rB, .ref rP, .ref rG, .long ab0, .long be0, .int mk, .ref rM, .int md, .ref rN, .ref rL, .ref rZ, .ref rE, .ref rI, .int hc, .ref rA, .ref rX, .int lnn, .ref rV, .ref rW, .int sl, .ref rC, .ref rF, .ref rQ, .ref rK, .ref rR, .ref rD]))] sz)) (va_Qi (fun (r : Int32) (uu : Unit) => r = -1) (fun (uu : Unit) t => BW E (va_A [(m0, .inr (9, [.int sh, .ref rO, .ref rU, .ref rT, .int rg, .ref rS, .ref rB, .ref rP, .ref rG, .long ab0, .long be0, .int mk, .ref rM, .int md, .ref rN, .ref rL, .ref rZ, .ref rE, .ref rI, .int hc, .ref rA, .ref rX, .int lnn, .ref rV, .ref rW, .int sl, .ref rC, .ref rF, .ref rQ, .ref rK, .ref rR, .ref rD]))] sz) [(m0, .inr (9, [.int sh, .ref rO, .ref rU, .ref rT, .int rg, .ref rS, .ref rB, .ref rP, .ref rG, .long ab0, .long be0, .int mk, .ref rM, .int md, .ref rN, .ref rL, .ref rZ, .ref rE, .ref rI, .int hc, .ref rA, .ref rX, .int lnn, .ref rV, .ref rW, .int sl, .ref rC, .ref rF, .ref rQ, .ref rK, .ref rR, .ref rD]))] t) (va_A [(m0, .inr (9, [.int sh, .ref rO, .ref rU, .ref rT, .int rg, .ref rS, .ref rB, .ref rP, .ref rG, .long ab0, .long be0, .int mk, .ref rM, .int md, .ref rN, .ref rL, .ref rZ, .ref rE, .ref rI, .int hc, .ref rA, .ref rX, .int lnn, .ref rV, .ref rW, .int sl, .ref rC, .ref rF, .ref rQ, .ref rK, .ref rR, .ref rD]))] sz)) 0 0 (va_A [(m0, .inr (9, [.int sh, .ref rO, .ref rU, .ref rT, .int rg, .ref rS, .ref rB, .ref rP, .ref rG, .long ab0, .long be0, .int mk, .ref rM, .int md, .ref rN, .ref rL, .ref rZ, .ref rE, .ref rI, .int hc, .ref rA, .ref rX, .int lnn, .ref rV, .ref rW, .int sl, .ref rC, .ref rF, .ref rQ, .ref rK, .ref rR, .ref rD]))] sz) := by
  refine Met.ofW (cc := cX9_cut) (maxL := 10) (ret := (some .int)) (by decide +kernel) rfl ?_
  intro p e s m args below meth c s₁ B hml hv
  obtain ⟨rfl, hsz, hP, hE, hD0⟩ := hv
  have hx := B.exec
  have hb := B.bytes
  have hr := B.returns
  have hts := atoms_spec (ws := wsX9_cut) B.pre
  have hown : s.vm.findClass RX9 = some m.cls := findClass_of_methodNamed B.named
  have hlocks := B.notSynchronized
  have hK := hE.1
  have hNN := hE.2.1
  subst hsz
  have hD := hD0.self (sz := s.heap.size)
  generalize hAe : va_A [(m0, .inr (9, [.int sh, .ref rO, .ref rU, .ref rT, .int rg, .ref rS, .ref rB, .ref rP, .ref rG, .long ab0, .long be0, .int mk, .ref rM, .int md, .ref rN, .ref rL, .ref rZ, .ref rE, .ref rI, .int hc, .ref rA, .ref rX, .int lnn, .ref rV, .ref rW, .int sl, .ref rC, .ref rF, .ref rQ, .ref rK, .ref rR, .ref rD]))] s.heap.size = A at hD ⊢
  have hA : ∀ q : Nat, s.heap.size ≤ q → A q := fun q h => by rw [← hAe]; exact Or.inr h
  have hS : va_S A s.heap s.heap [] := va_S.rf
  have hl := lv_entry ([.ref m0, .int sv, .int tv, .int cv]) (n := 10) (Nat.le_of_ble_eq_true rfl)
  rw [lg_entry_eq]
  generalize (lg_sl ([.ref m0, .int sv, .int tv, .int cv]) ++ List.replicate (10 - (lg_sl ([.ref m0, .int sv, .int tv, .int cv])).length) Slot.unset).toArray = ls at hl ⊢
  have hl : lv_has ls 10 [(0, .ref m0), (1, .int sv), (2, .int tv), (3, .int cv)] := hl
  refine lv_iload_n hx hb dX9_cut_0 rfl (lv_at hl 1 rfl) ?_
  refine lv_i2l (v := sv.toInt64) hx hb dX9_cut_1 (rfl) ?_
  refine lv_lconst (v := 0) hx hb dX9_cut_2 (by decide) ?_
  refine lv_ldc2 (v := 3) hx hb hown (hts (.constantLong RX9 108 (3)) (by decide +kernel)) dX9_cut_3 ?_
  refine rSi hE ⟨hx, hb, hml, hown, hts⟩ (c_X9_in l E sv.toInt64 0 3 ) (va_cwS 3 hts gX9_cut_X9_in rfl rfl rfl (by decide +kernel) ⟨Nat.le_of_ble_eq_true rfl, Nat.le_of_ble_eq_true rfl⟩) (hP.sub [] rfl) rfl hl.1 rfl (Nat.le_of_ble_eq_true rfl) dX9_cut_6 ⟨(Nat.zero_le _), (Nat.zero_le _)⟩ ?_
  rw [show fIn sv.toInt64 0 3 = fWi sv 0 3 from fIn_c (rfl) (by decide) (by decide)]
  refine lv_if_eq (tgt := 28) hx hb dX9_cut_9 (by decide) (fun c_9 => ?_) (fun c_9 => ?_)
  · have c_9 := fWi_0 c_9
    refine lv_iconst (v := (-1)) hx hb dX9_cut_28 (by decide) ?_
    have hP9 : va_P E.1 vwCl [(m0, .inr (9, [.int sh, .ref rO, .ref rU, .ref rT, .int rg, .ref rS, .ref rB, .ref rP, .ref rG, .long ab0, .long be0, .int mk, .ref rM, .int md, .ref rN, .ref rL, .ref rZ, .ref rE, .ref rI, .int hc, .ref rA, .ref rX, .int lnn, .ref rV, .ref rW, .int sl, .ref rC, .ref rF, .ref rQ, .ref rK, .ref rR, .ref rD]))] s.heap := hP.sub [0] rfl
    have hD9 : va_D A [(m0, .inr (9, [.int sh, .ref rO, .ref rU, .ref rT, .int rg, .ref rS, .ref rB, .ref rP, .ref rG, .long ab0, .long be0, .int mk, .ref rM, .int md, .ref rN, .ref rL, .ref rZ, .ref rE, .ref rI, .int hc, .ref rA, .ref rX, .int lnn, .ref rV, .ref rW, .int sl, .ref rC, .ref rF, .ref rQ, .ref rK, .ref rR, .ref rD]))] := hD.sub [0] (by decide) rfl
    exact W.iret (v := (-1)) hx hb hr (fun t9 ht9 hW9 => ⟨⟨(-1), (), rfl, rfl, ⟨by rw [ht9]; exact hP9, hD9⟩⟩, hS.F ht9⟩) hS.2.2 dX9_cut_29
  · have c_9 := fWi_1 c_9
    refine lv_iload_n hx hb dX9_cut_12 rfl (lv_at hl 2 rfl) ?_
    refine lv_if_lt (tgt := 28) hx hb dX9_cut_13 (by decide) (fun c_13 => ?_) (fun c_13 => ?_)
    · refine lv_iconst (v := (-1)) hx hb dX9_cut_28 (by decide) ?_
      have hP9 : va_P E.1 vwCl [(m0, .inr (9, [.int sh, .ref rO, .ref rU, .ref rT, .int rg, .ref rS, .ref rB, .ref rP, .ref rG, .long ab0, .long be0, .int mk, .ref rM, .int md, .ref rN, .ref rL, .ref rZ, .ref rE, .ref rI, .int hc, .ref rA, .ref rX, .int lnn, .ref rV, .ref rW, .int sl, .ref rC, .ref rF, .ref rQ, .ref rK, .ref rR, .ref rD]))] s.heap := hP.sub [0] rfl
      have hD9 : va_D A [(m0, .inr (9, [.int sh, .ref rO, .ref rU, .ref rT, .int rg, .ref rS, .ref rB, .ref rP, .ref rG, .long ab0, .long be0, .int mk, .ref rM, .int md, .ref rN, .ref rL, .ref rZ, .ref rE, .ref rI, .int hc, .ref rA, .ref rX, .int lnn, .ref rV, .ref rW, .int sl, .ref rC, .ref rF, .ref rQ, .ref rK, .ref rR, .ref rD]))] := hD.sub [0] (by decide) rfl
      exact W.iret (v := (-1)) hx hb hr (fun t9 ht9 hW9 => ⟨⟨(-1), (), rfl, rfl, ⟨by rw [ht9]; exact hP9, hD9⟩⟩, hS.F ht9⟩) hS.2.2 dX9_cut_29
    · refine lv_iload_n hx hb dX9_cut_16 rfl (lv_at hl 3 rfl) ?_
      refine lv_i2l (v := cv.toInt64) hx hb dX9_cut_17 (rfl) ?_
      refine lv_lconst (v := 1) hx hb dX9_cut_18 (by decide) ?_
      refine lv_ldc2 (v := 40) hx hb hown (hts (.constantLong RX9 175 (40)) (by decide +kernel)) dX9_cut_19 ?_
      refine rSi hE ⟨hx, hb, hml, hown, hts⟩ (c_X9_in l E cv.toInt64 1 40 ) (va_cwS 3 hts gX9_cut_X9_in rfl rfl rfl (by decide +kernel) ⟨Nat.le_of_ble_eq_true rfl, Nat.le_of_ble_eq_true rfl⟩) (hP.sub [] rfl) rfl hl.1 rfl (Nat.le_of_ble_eq_true rfl) dX9_cut_22 ⟨(Nat.zero_le _), (Nat.zero_le _)⟩ ?_
      rw [show fIn cv.toInt64 1 40 = fWi cv 1 40 from fIn_c (rfl) (by decide) (by decide)]
      refine lv_if_ne (tgt := 30) hx hb dX9_cut_25 (by decide) (fun c_25 => by exfalso; have c_25 := fWi_1 c_25; exact hno ⟨c_9, c_13, c_25⟩) (fun c_25 => ?_)
      have c_25 := fWi_0 c_25
      refine lv_iconst (v := (-1)) hx hb dX9_cut_28 (by decide) ?_
      have hP9 : va_P E.1 vwCl [(m0, .inr (9, [.int sh, .ref rO, .ref rU, .ref rT, .int rg, .ref rS, .ref rB, .ref rP, .ref rG, .long ab0, .long be0, .int mk, .ref rM, .int md, .ref rN, .ref rL, .ref rZ, .ref rE, .ref rI, .int hc, .ref rA, .ref rX, .int lnn, .ref rV, .ref rW, .int sl, .ref rC, .ref rF, .ref rQ, .ref rK, .ref rR, .ref rD]))] s.heap := hP.sub [0] rfl
      have hD9 : va_D A [(m0, .inr (9, [.int sh, .ref rO, .ref rU, .ref rT, .int rg, .ref rS, .ref rB, .ref rP, .ref rG, .long ab0, .long be0, .int mk, .ref rM, .int md, .ref rN, .ref rL, .ref rZ, .ref rE, .ref rI, .int hc, .ref rA, .ref rX, .int lnn, .ref rV, .ref rW, .int sl, .ref rC, .ref rF, .ref rQ, .ref rK, .ref rR, .ref rD]))] := hD.sub [0] (by decide) rfl
      exact W.iret (v := (-1)) hx hb hr (fun t9 ht9 hW9 => ⟨⟨(-1), (), rfl, rfl, ⟨by rw [ht9]; exact hP9, hD9⟩⟩, hS.F ht9⟩) hS.2.2 dX9_cut_29
set_option maxHeartbeats 1000000 in
set_option maxRecDepth 100000 in
theorem c_X9_cut_null (l : Launch) (E : EnvT) (sz : Nat) (m0 : Nat) (sh : Int32) (rO : Nat) (rU : Nat) (rT : Nat) (rg : Int32) (rS : Nat) (rB : Nat) (rP : Nat) (rG : Nat) (ab0 : Int64) (be0 : Int64) (mk : Int32) (rM : Nat) (md : Int32) (rN : Nat) (rL : Nat) (rZ : Nat) (rE : Nat) (rI : Nat) (hc : Int32) (rA : Nat) (rX : Nat) (lnn : Int32) (rV : Nat) (rW : Nat) (sl : Int32) (rC : Nat) (rF : Nat) (rQ : Nat) (rK : Nat) (rR : Nat) (rD : Nat) (La : Nat → Int32) (kk : Nat) (tt : Nat) (cc : Nat) (hk : kk < 4) (htt : tt < 2 ^ 31) (hc1 : 1 ≤ cc) (hc2 : cc ≤ 40) (hla : La kk < 0) : Met l yX9_cut wsX9_cut ({ frames := 1, cells := 0, slots := 0, locals := 25 }) (va_Pc [.ref m0, .int (nI kk), .int (nI tt), .int (nI cc)] (PW E [(m0, .inr (9, [.int sh, .ref rO, .ref rU, .ref rT, .int rg, .ref rS, .ref rB, .ref rP, .ref rG, .long ab0, .long be0, .int mk, .ref rM, .int md, .ref rN, .ref rL, .ref rZ, .ref rE, .ref rI, .int hc, .ref rA, .ref rX, .int lnn, .ref rV, .ref rW, .int sl, .ref rC, .ref rF, .ref rQ, .ref rK, .ref rR, .ref rD])), (rL, .inl (E.2 1, 4, .inl La))] sz)) (va_Qi (fun (r : Int32) (uu : Unit) => r = -11) (fun (uu : Unit) t => BW E (va_A [(m0, .inr (9, [.int sh, .ref rO, .ref rU, .ref rT, .int rg, .ref rS, .ref rB, .ref rP, .ref rG, .long ab0, .long be0, .int mk, .ref rM, .int md, .ref rN, .ref rL, .ref rZ, .ref rE, .ref rI, .int hc, .ref rA, .ref rX, .int lnn, .ref rV, .ref rW, .int sl, .ref rC, .ref rF, .ref rQ, .ref rK, .ref rR, .ref rD])), (rL, .inl (E.2 1, 4, .inl La))] sz) [(m0, .inr (9, [.int sh, .ref rO, .ref rU, .ref rT, .int rg, .ref rS, .ref rB, .ref rP, .ref rG, .long ab0, .long be0, .int mk, .ref rM, .int md, .ref rN, .ref rL, .ref rZ, .ref rE, .ref rI, .int hc, .ref rA, .ref rX, .int lnn, .ref rV, .ref rW, .int sl, .ref rC, .ref rF, .ref rQ, .ref rK, .ref rR, .ref rD])), (rL, .inl (E.2 1, 4, .inl La))] t) (va_A [(m0, .inr (9, [.int sh, .ref rO, .ref rU, .ref rT, .int rg, .ref rS, .ref rB, .ref rP, .ref rG, .long ab0, .long be0, .int mk, .ref rM, .int md, .ref rN, .ref rL, .ref rZ, .ref rE, .ref rI, .int hc, .ref rA, .ref rX, .int lnn, .ref rV, .ref rW, .int sl, .ref rC, .ref rF, .ref rQ, .ref rK, .ref rR, .ref rD])), (rL, .inl (E.2 1, 4, .inl La))] sz)) 0 0 (va_A [(m0, .inr (9, [.int sh, .ref rO, .ref rU, .ref rT, .int rg, .ref rS, .ref rB, .ref rP, .ref rG, .long ab0, .long be0, .int mk, .ref rM, .int md, .ref rN, .ref rL, .ref rZ, .ref rE, .ref rI, .int hc, .ref rA, .ref rX, .int lnn, .ref rV, .ref rW, .int sl, .ref rC, .ref rF, .ref rQ, .ref rK, .ref rR, .ref rD])), (rL, .inl (E.2 1, 4, .inl La))] sz) := by
  refine Met.ofW (cc := cX9_cut) (maxL := 10) (ret := (some .int)) (by decide +kernel) rfl ?_
  intro p e s m args below meth c s₁ B hml hv
  obtain ⟨rfl, hsz, hP, hE, hD0⟩ := hv
  have hx := B.exec
  have hb := B.bytes
  have hr := B.returns
  have hts := atoms_spec (ws := wsX9_cut) B.pre
  have hown : s.vm.findClass RX9 = some m.cls := findClass_of_methodNamed B.named
  have hlocks := B.notSynchronized
  have hK := hE.1
  have hNN := hE.2.1
  have hinX9 : ∀ w ∈ wsX90, w ∈ wsX9_cut := fun w h => List.mem_cons_of_mem _ (List.mem_append_right _ h)
  subst hsz
  have hD := hD0.self (sz := s.heap.size)
  generalize hAe : va_A [(m0, .inr (9, [.int sh, .ref rO, .ref rU, .ref rT, .int rg, .ref rS, .ref rB, .ref rP, .ref rG, .long ab0, .long be0, .int mk, .ref rM, .int md, .ref rN, .ref rL, .ref rZ, .ref rE, .ref rI, .int hc, .ref rA, .ref rX, .int lnn, .ref rV, .ref rW, .int sl, .ref rC, .ref rF, .ref rQ, .ref rK, .ref rR, .ref rD])), (rL, .inl (E.2 1, 4, .inl La))] s.heap.size = A at hD ⊢
  have hA : ∀ q : Nat, s.heap.size ≤ q → A q := fun q h => by rw [← hAe]; exact Or.inr h
  have hS : va_S A s.heap s.heap [] := va_S.rf
  have hl := lv_entry ([.ref m0, .int (nI kk), .int (nI tt), .int (nI cc)]) (n := 10) (Nat.le_of_ble_eq_true rfl)
  rw [lg_entry_eq]
  generalize (lg_sl ([.ref m0, .int (nI kk), .int (nI tt), .int (nI cc)]) ++ List.replicate (10 - (lg_sl ([.ref m0, .int (nI kk), .int (nI tt), .int (nI cc)])).length) Slot.unset).toArray = ls at hl ⊢
  have hl : lv_has ls 10 [(0, .ref m0), (1, .int (nI kk)), (2, .int (nI tt)), (3, .int (nI cc))] := hl
  refine lv_iload_n hx hb dX9_cut_0 rfl (lv_at hl 1 rfl) ?_
  refine lv_i2l (v := lN kk) hx hb dX9_cut_1 (nI_l (by omega)) ?_
  refine lv_lconst (v := 0) hx hb dX9_cut_2 (by decide) ?_
  refine lv_ldc2 (v := 3) hx hb hown (hts (.constantLong RX9 108 (3)) (by decide +kernel)) dX9_cut_3 ?_
  refine rSi hE ⟨hx, hb, hml, hown, hts⟩ (c_X9_in l E (lN kk) 0 3 ) (va_cwS 3 hts gX9_cut_X9_in rfl rfl rfl (by decide +kernel) ⟨Nat.le_of_ble_eq_true rfl, Nat.le_of_ble_eq_true rfl⟩) (hP.sub [] rfl) rfl hl.1 rfl (Nat.le_of_ble_eq_true rfl) dX9_cut_6 ⟨(Nat.zero_le _), (Nat.zero_le _)⟩ ?_
  rw [show fIn (lN kk) 0 3 = fWi (nI kk) 0 3 from fIn_c (nI_l (by omega)) (by decide) (by decide)]
  refine lv_if_eq (tgt := 28) hx hb dX9_cut_9 (by decide) (fun c_9 => by exfalso; have c_9 := fWi_0 c_9; exact c_9 ⟨nI_pos' (by omega), nI_le (b := 3) (by omega) (by omega)⟩) (fun c_9 => ?_)
  have c_9 := fWi_1 c_9
  refine lv_iload_n hx hb dX9_cut_12 rfl (lv_at hl 2 rfl) ?_
  refine lv_if_lt (tgt := 28) hx hb dX9_cut_13 (by decide) (fun c_13 => by exfalso; have c_13 : tt < 0 := (nI_ltI (a := tt) (b := 0) (by omega) (by omega)).mp c_13; omega) (fun c_13 => ?_)
  have c_13 : ¬ tt < 0 := fun h9 => c_13 ((nI_ltI (a := tt) (b := 0) (by omega) (by omega)).mpr h9)
  refine lv_iload_n hx hb dX9_cut_16 rfl (lv_at hl 3 rfl) ?_
  refine lv_i2l (v := lN cc) hx hb dX9_cut_17 (nI_l (by omega)) ?_
  refine lv_lconst (v := 1) hx hb dX9_cut_18 (by decide) ?_
  refine lv_ldc2 (v := 40) hx hb hown (hts (.constantLong RX9 175 (40)) (by decide +kernel)) dX9_cut_19 ?_
  refine rSi hE ⟨hx, hb, hml, hown, hts⟩ (c_X9_in l E (lN cc) 1 40 ) (va_cwS 3 hts gX9_cut_X9_in rfl rfl rfl (by decide +kernel) ⟨Nat.le_of_ble_eq_true rfl, Nat.le_of_ble_eq_true rfl⟩) (hP.sub [] rfl) rfl hl.1 rfl (Nat.le_of_ble_eq_true rfl) dX9_cut_22 ⟨(Nat.zero_le _), (Nat.zero_le _)⟩ ?_
  rw [show fIn (lN cc) 1 40 = fWi (nI cc) 1 40 from fIn_c (nI_l (by omega)) (by decide) (by decide)]
  refine lv_if_ne (tgt := 30) hx hb dX9_cut_25 (by decide) (fun c_25 => ?_) (fun c_25 => by exfalso; have c_25 := fWi_0 c_25; exact c_25 ⟨nI_le (a := 1) (by omega) (by omega), nI_le (b := 40) (by omega) (by omega)⟩)
  have c_25 := fWi_1 c_25
  refine lv_aload_n hx hb dX9_cut_30 rfl (lv_at hl 0 rfl) ?_
  refine va_get (D := E.1) (ci := 9) (v := .ref rL) (C := RX9) (T := TX9) (N := 32) hx hb hts hinX9 hown hK hP 0 rfl rfl 15 (by decide) (hts (.fieldLink RX9 42 "WornRingsModel" "lanes" "[I") (by decide +kernel)) (fun _ h9 => h9) rfl dX9_cut_31 ?_
  refine lv_iload_n hx hb dX9_cut_34 rfl (lv_at hl 1 rfl) ?_
  refine va_iald hx hb hK hP 1 1 rfl rfl (vp_in_nI (by omega) (by omega)) dX9_cut_35 ?_
  rw [nI_clamp (n := kk) (by omega)]
  refine lv_if_ge (tgt := 42) hx hb dX9_cut_36 (by decide) (fun c_36 => by exfalso; exact absurd hla (Int32.not_lt.mpr c_36)) (fun c_36 => ?_)
  refine lv_bipush (v := (-11)) hx hb dX9_cut_39 (by decide) ?_
  have hP9 : va_P E.1 vwCl [(m0, .inr (9, [.int sh, .ref rO, .ref rU, .ref rT, .int rg, .ref rS, .ref rB, .ref rP, .ref rG, .long ab0, .long be0, .int mk, .ref rM, .int md, .ref rN, .ref rL, .ref rZ, .ref rE, .ref rI, .int hc, .ref rA, .ref rX, .int lnn, .ref rV, .ref rW, .int sl, .ref rC, .ref rF, .ref rQ, .ref rK, .ref rR, .ref rD])), (rL, .inl (E.2 1, 4, .inl La))] s.heap := hP.sub [0, 1] rfl
  have hD9 : va_D A [(m0, .inr (9, [.int sh, .ref rO, .ref rU, .ref rT, .int rg, .ref rS, .ref rB, .ref rP, .ref rG, .long ab0, .long be0, .int mk, .ref rM, .int md, .ref rN, .ref rL, .ref rZ, .ref rE, .ref rI, .int hc, .ref rA, .ref rX, .int lnn, .ref rV, .ref rW, .int sl, .ref rC, .ref rF, .ref rQ, .ref rK, .ref rR, .ref rD])), (rL, .inl (E.2 1, 4, .inl La))] := hD.sub [0, 1] (by decide) rfl
  exact W.iret (v := (-11)) hx hb hr (fun t9 ht9 hW9 => ⟨⟨(-11), (), rfl, rfl, ⟨by rw [ht9]; exact hP9, hD9⟩⟩, hS.F ht9⟩) hS.2.2 dX9_cut_41
set_option maxHeartbeats 1000000 in
set_option maxRecDepth 100000 in
theorem c_X9_cut_not (l : Launch) (E : EnvT) (sz : Nat) (m0 : Nat) (sh : Int32) (rO : Nat) (rU : Nat) (rT : Nat) (rg : Int32) (rS : Nat) (rB : Nat) (rP : Nat) (rG : Nat) (ab0 : Int64) (be0 : Int64) (mk : Nat) (rM : Nat) (md : Int32) (rN : Nat) (rL : Nat) (rZ : Nat) (rE : Nat) (rI : Nat) (hc : Int32) (rA : Nat) (rX : Nat) (lnn : Int32) (rV : Nat) (rW : Nat) (sl : Int32) (rC : Nat) (rF : Nat) (rQ : Nat) (rK : Nat) (rR : Nat) (rD : Nat) (La : Nat → Int32) (Sz : Nat → Nat) (Sp : Nat → Nat) (It : Nat → Int32) (Ti : Nat → Nat) (Tn : Nat → Nat) (gm : Nat → Int32) (Su : Nat → Int64) (kk : Nat) (tt : Nat) (cc : Nat) (hk : kk < 4) (htt : tt < 2 ^ 31) (hc1 : 1 ≤ cc) (hc2 : cc ≤ 40) (hmk : mk ≤ 60) (hti : ∀ j, j + 1 < mk → Ti j < Ti (j + 1)) (htb : ∀ j, j < mk → Ti j ≤ 1000000) (hla : ¬ La kk < 0) (hn : Sz kk ≤ 200) (hs1 : 1 ≤ Sp kk) (hs2 : Sp kk ≤ 1000) (hno : ¬ (tt + cc + 1 ≤ (adAll Ti mk).length ∧ ∀ b j, tt ≤ b → b < tt + cc → j < 32 → 1 ≤ Sz kk ∧ tmF (fun i => (adAll Ti mk).getD i 0) b j ≤ (Sz kk - 1) * Sp kk)) : Met l yX9_cut wsX9_cut ({ frames := 2, cells := 0, slots := 0, locals := 51 }) (va_Pc [.ref m0, .int (nI kk), .int (nI tt), .int (nI cc)] (PW E [(m0, .inr (9, [.int sh, .ref rO, .ref rU, .ref rT, .int rg, .ref rS, .ref rB, .ref rP, .ref rG, .long ab0, .long be0, .int (nI mk), .ref rM, .int md, .ref rN, .ref rL, .ref rZ, .ref rE, .ref rI, .int hc, .ref rA, .ref rX, .int lnn, .ref rV, .ref rW, .int sl, .ref rC, .ref rF, .ref rQ, .ref rK, .ref rR, .ref rD])), (rL, .inl (E.2 1, 4, .inl La)), (rZ, .inl (E.2 1, 4, .inl (nA Sz))), (rE, .inl (E.2 1, 4, .inl (nA Sp))), (rI, .inl (E.2 1, 800, .inl It)), (rM, .inl (E.2 1, 60, .inl (nA Ti))), (rN, .inl (E.2 1, 120, .inl (nA Tn))), (rA, .inl (E.2 1, 32, .inl gm)), (rX, .inl (E.2 2, 32, .inr (.inl Su)))] sz)) (va_Qi (fun (r : Int32) (uu : (Nat → Nat) × (Nat → Int64)) => r = -2 ∧ (RLs uu.1 (adAll Ti mk))) (fun (uu : (Nat → Nat) × (Nat → Int64)) t => BW E (va_A [(m0, .inr (9, [.int sh, .ref rO, .ref rU, .ref rT, .int rg, .ref rS, .ref rB, .ref rP, .ref rG, .long ab0, .long be0, .int (nI mk), .ref rM, .int md, .ref rN, .ref rL, .ref rZ, .ref rE, .ref rI, .int hc, .ref rA, .ref rX, .int lnn, .ref rV, .ref rW, .int sl, .ref rC, .ref rF, .ref rQ, .ref rK, .ref rR, .ref rD])), (rL, .inl (E.2 1, 4, .inl La)), (rZ, .inl (E.2 1, 4, .inl (nA Sz))), (rE, .inl (E.2 1, 4, .inl (nA Sp))), (rI, .inl (E.2 1, 800, .inl It)), (rM, .inl (E.2 1, 60, .inl (nA Ti))), (rN, .inl (E.2 1, 120, .inl (nA Tn))), (rA, .inl (E.2 1, 32, .inl gm)), (rX, .inl (E.2 2, 32, .inr (.inl Su)))] sz) [(m0, .inr (9, [.int sh, .ref rO, .ref rU, .ref rT, .int rg, .ref rS, .ref rB, .ref rP, .ref rG, .long ab0, .long be0, .int (nI mk), .ref rM, .int (nI (adAll Ti mk).length), .ref rN, .ref rL, .ref rZ, .ref rE, .ref rI, .int hc, .ref rA, .ref rX, .int lnn, .ref rV, .ref rW, .int sl, .ref rC, .ref rF, .ref rQ, .ref rK, .ref rR, .ref rD])), (rL, .inl (E.2 1, 4, .inl La)), (rZ, .inl (E.2 1, 4, .inl (nA Sz))), (rE, .inl (E.2 1, 4, .inl (nA Sp))), (rI, .inl (E.2 1, 800, .inl It)), (rM, .inl (E.2 1, 60, .inl (nA Ti))), (rN, .inl (E.2 1, 120, .inl (nA uu.1))), (rA, .inl (E.2 1, 32, .inl gm)), (rX, .inl (E.2 2, 32, .inr (.inl uu.2)))] t) (va_A [(m0, .inr (9, [.int sh, .ref rO, .ref rU, .ref rT, .int rg, .ref rS, .ref rB, .ref rP, .ref rG, .long ab0, .long be0, .int (nI mk), .ref rM, .int md, .ref rN, .ref rL, .ref rZ, .ref rE, .ref rI, .int hc, .ref rA, .ref rX, .int lnn, .ref rV, .ref rW, .int sl, .ref rC, .ref rF, .ref rQ, .ref rK, .ref rR, .ref rD])), (rL, .inl (E.2 1, 4, .inl La)), (rZ, .inl (E.2 1, 4, .inl (nA Sz))), (rE, .inl (E.2 1, 4, .inl (nA Sp))), (rI, .inl (E.2 1, 800, .inl It)), (rM, .inl (E.2 1, 60, .inl (nA Ti))), (rN, .inl (E.2 1, 120, .inl (nA Tn))), (rA, .inl (E.2 1, 32, .inl gm)), (rX, .inl (E.2 2, 32, .inr (.inl Su)))] sz)) 0 0 (va_A [(m0, .inr (9, [.int sh, .ref rO, .ref rU, .ref rT, .int rg, .ref rS, .ref rB, .ref rP, .ref rG, .long ab0, .long be0, .int (nI mk), .ref rM, .int md, .ref rN, .ref rL, .ref rZ, .ref rE, .ref rI, .int hc, .ref rA, .ref rX, .int lnn, .ref rV, .ref rW, .int sl, .ref rC, .ref rF, .ref rQ, .ref rK, .ref rR, .ref rD])), (rL, .inl (E.2 1, 4, .inl La)), (rZ, .inl (E.2 1, 4, .inl (nA Sz))), (rE, .inl (E.2 1, 4, .inl (nA Sp))), (rI, .inl (E.2 1, 800, .inl It)), (rM, .inl (E.2 1, 60, .inl (nA Ti))), (rN, .inl (E.2 1, 120, .inl (nA Tn))), (rA, .inl (E.2 1, 32, .inl gm)), (rX, .inl (E.2 2, 32, .inr (.inl Su)))] sz) := by
  refine Met.ofW (cc := cX9_cut) (maxL := 10) (ret := (some .int)) (by decide +kernel) rfl ?_
  intro p e s m args below meth c s₁ B hml hv
  obtain ⟨rfl, hsz, hP, hE, hD0⟩ := hv
  have hx := B.exec
  have hb := B.bytes
  have hr := B.returns
  have hts := atoms_spec (ws := wsX9_cut) B.pre
  have hown : s.vm.findClass RX9 = some m.cls := findClass_of_methodNamed B.named
  have hlocks := B.notSynchronized
  have hK := hE.1
  have hNN := hE.2.1
  have hinX9 : ∀ w ∈ wsX90, w ∈ wsX9_cut := fun w h => List.mem_cons_of_mem _ (List.mem_append_right _ h)
  subst hsz
  have hD := hD0.self (sz := s.heap.size)
  generalize hAe : va_A [(m0, .inr (9, [.int sh, .ref rO, .ref rU, .ref rT, .int rg, .ref rS, .ref rB, .ref rP, .ref rG, .long ab0, .long be0, .int (nI mk), .ref rM, .int md, .ref rN, .ref rL, .ref rZ, .ref rE, .ref rI, .int hc, .ref rA, .ref rX, .int lnn, .ref rV, .ref rW, .int sl, .ref rC, .ref rF, .ref rQ, .ref rK, .ref rR, .ref rD])), (rL, .inl (E.2 1, 4, .inl La)), (rZ, .inl (E.2 1, 4, .inl (nA Sz))), (rE, .inl (E.2 1, 4, .inl (nA Sp))), (rI, .inl (E.2 1, 800, .inl It)), (rM, .inl (E.2 1, 60, .inl (nA Ti))), (rN, .inl (E.2 1, 120, .inl (nA Tn))), (rA, .inl (E.2 1, 32, .inl gm)), (rX, .inl (E.2 2, 32, .inr (.inl Su)))] s.heap.size = A at hD ⊢
  have hA : ∀ q : Nat, s.heap.size ≤ q → A q := fun q h => by rw [← hAe]; exact Or.inr h
  have hS : va_S A s.heap s.heap [] := va_S.rf
  have hl := lv_entry ([.ref m0, .int (nI kk), .int (nI tt), .int (nI cc)]) (n := 10) (Nat.le_of_ble_eq_true rfl)
  rw [lg_entry_eq]
  generalize (lg_sl ([.ref m0, .int (nI kk), .int (nI tt), .int (nI cc)]) ++ List.replicate (10 - (lg_sl ([.ref m0, .int (nI kk), .int (nI tt), .int (nI cc)])).length) Slot.unset).toArray = ls at hl ⊢
  have hl : lv_has ls 10 [(0, .ref m0), (1, .int (nI kk)), (2, .int (nI tt)), (3, .int (nI cc))] := hl
  obtain ⟨i1, i2, i3, -, -, -⟩ := adAll_inv (Ti := Ti) mk hti
  refine lv_iload_n hx hb dX9_cut_0 rfl (lv_at hl 1 rfl) ?_
  refine lv_i2l (v := lN kk) hx hb dX9_cut_1 (nI_l (by omega)) ?_
  refine lv_lconst (v := 0) hx hb dX9_cut_2 (by decide) ?_
  refine lv_ldc2 (v := 3) hx hb hown (hts (.constantLong RX9 108 (3)) (by decide +kernel)) dX9_cut_3 ?_
  refine rSi hE ⟨hx, hb, hml, hown, hts⟩ (c_X9_in l E (lN kk) 0 3 ) (va_cwS 3 hts gX9_cut_X9_in rfl rfl rfl (by decide +kernel) ⟨Nat.le_of_ble_eq_true rfl, Nat.le_of_ble_eq_true rfl⟩) (hP.sub [] rfl) rfl hl.1 rfl (Nat.le_of_ble_eq_true rfl) dX9_cut_6 ⟨(Nat.zero_le _), (Nat.zero_le _)⟩ ?_
  rw [show fIn (lN kk) 0 3 = fWi (nI kk) 0 3 from fIn_c (nI_l (by omega)) (by decide) (by decide)]
  refine lv_if_eq (tgt := 28) hx hb dX9_cut_9 (by decide) (fun c_9 => by exfalso; have c_9 := fWi_0 c_9; exact c_9 ⟨nI_pos' (by omega), nI_le (b := 3) (by omega) (by omega)⟩) (fun c_9 => ?_)
  have c_9 := fWi_1 c_9
  refine lv_iload_n hx hb dX9_cut_12 rfl (lv_at hl 2 rfl) ?_
  refine lv_if_lt (tgt := 28) hx hb dX9_cut_13 (by decide) (fun c_13 => by exfalso; have c_13 : tt < 0 := (nI_ltI (a := tt) (b := 0) (by omega) (by omega)).mp c_13; omega) (fun c_13 => ?_)
  have c_13 : ¬ tt < 0 := fun h9 => c_13 ((nI_ltI (a := tt) (b := 0) (by omega) (by omega)).mpr h9)
  refine lv_iload_n hx hb dX9_cut_16 rfl (lv_at hl 3 rfl) ?_
  refine lv_i2l (v := lN cc) hx hb dX9_cut_17 (nI_l (by omega)) ?_
  refine lv_lconst (v := 1) hx hb dX9_cut_18 (by decide) ?_
  refine lv_ldc2 (v := 40) hx hb hown (hts (.constantLong RX9 175 (40)) (by decide +kernel)) dX9_cut_19 ?_
  refine rSi hE ⟨hx, hb, hml, hown, hts⟩ (c_X9_in l E (lN cc) 1 40 ) (va_cwS 3 hts gX9_cut_X9_in rfl rfl rfl (by decide +kernel) ⟨Nat.le_of_ble_eq_true rfl, Nat.le_of_ble_eq_true rfl⟩) (hP.sub [] rfl) rfl hl.1 rfl (Nat.le_of_ble_eq_true rfl) dX9_cut_22 ⟨(Nat.zero_le _), (Nat.zero_le _)⟩ ?_
  rw [show fIn (lN cc) 1 40 = fWi (nI cc) 1 40 from fIn_c (nI_l (by omega)) (by decide) (by decide)]
  refine lv_if_ne (tgt := 30) hx hb dX9_cut_25 (by decide) (fun c_25 => ?_) (fun c_25 => by exfalso; have c_25 := fWi_0 c_25; exact c_25 ⟨nI_le (a := 1) (by omega) (by omega), nI_le (b := 40) (by omega) (by omega)⟩)
  have c_25 := fWi_1 c_25
  refine lv_aload_n hx hb dX9_cut_30 rfl (lv_at hl 0 rfl) ?_
  refine va_get (D := E.1) (ci := 9) (v := .ref rL) (C := RX9) (T := TX9) (N := 32) hx hb hts hinX9 hown hK hP 0 rfl rfl 15 (by decide) (hts (.fieldLink RX9 42 "WornRingsModel" "lanes" "[I") (by decide +kernel)) (fun _ h9 => h9) rfl dX9_cut_31 ?_
  refine lv_iload_n hx hb dX9_cut_34 rfl (lv_at hl 1 rfl) ?_
  refine va_iald hx hb hK hP 1 1 rfl rfl (vp_in_nI (by omega) (by omega)) dX9_cut_35 ?_
  rw [nI_clamp (n := kk) (by omega)]
  refine lv_if_ge (tgt := 42) hx hb dX9_cut_36 (by decide) (fun c_36 => ?_) (fun c_36 => by exfalso; exact hla (Int32.not_le.mp c_36))
  refine lv_aload_n hx hb dX9_cut_42 rfl (lv_at hl 0 rfl) ?_
  refine wVv (wr := [(rL, .inl (E.2 1, 4, .inl La)), (rZ, .inl (E.2 1, 4, .inl (nA Sz))), (rE, .inl (E.2 1, 4, .inl (nA Sp))), (rI, .inl (E.2 1, 800, .inl It)), (rA, .inl (E.2 1, 32, .inl gm)), (rX, .inl (E.2 2, 32, .inr (.inl Su)))]) hE ⟨hx, hb, hml, hown, hts⟩ (c_X9_mend l E s.heap.size m0 sh rO rU rT rg rS rB rP rG ab0 be0 mk rM md rN rL rZ rE rI hc rA rX lnn rV rW sl rC rF rQ rK rR rD Ti Tn (hmk) (hti) (htb)) (cwV 0 hts gX9_cut_X9_mend rfl rfl rfl (by decide +kernel) ⟨Nat.le_of_ble_eq_true rfl, Nat.le_of_ble_eq_true rfl⟩) hP hD hS hA [0, 5, 6] [1, 2, 3, 4, 7, 8] rfl rfl (by decide) (by decide) (by decide) 0 9 rfl rfl rfl hl.1 rfl (Nat.le_of_ble_eq_true rfl) dX9_cut_43 ⟨(Nat.zero_le _), (Nat.zero_le _)⟩ (fun u H locs hw hP hD hS => ?_)
  obtain ⟨T2_43, rfl⟩ : ∃ z, z = u := ⟨_, rfl⟩
  have hP : va_P E.1 vwCl [(rL, .inl (E.2 1, 4, .inl La)), (rZ, .inl (E.2 1, 4, .inl (nA Sz))), (rE, .inl (E.2 1, 4, .inl (nA Sp))), (rI, .inl (E.2 1, 800, .inl It)), (rA, .inl (E.2 1, 32, .inl gm)), (rX, .inl (E.2 2, 32, .inr (.inl Su))), (m0, .inr (9, [.int sh, .ref rO, .ref rU, .ref rT, .int rg, .ref rS, .ref rB, .ref rP, .ref rG, .long ab0, .long be0, .int (nI mk), .ref rM, .int (nI (adAll Ti mk).length), .ref rN, .ref rL, .ref rZ, .ref rE, .ref rI, .int hc, .ref rA, .ref rX, .int lnn, .ref rV, .ref rW, .int sl, .ref rC, .ref rF, .ref rQ, .ref rK, .ref rR, .ref rD])), (rM, .inl (E.2 1, 60, .inl (nA Ti))), (rN, .inl (E.2 1, 120, .inl (nA T2_43)))] H := hP
  have hD : va_D A [(rL, .inl (E.2 1, 4, .inl La)), (rZ, .inl (E.2 1, 4, .inl (nA Sz))), (rE, .inl (E.2 1, 4, .inl (nA Sp))), (rI, .inl (E.2 1, 800, .inl It)), (rA, .inl (E.2 1, 32, .inl gm)), (rX, .inl (E.2 2, 32, .inr (.inl Su))), (m0, .inr (9, [.int sh, .ref rO, .ref rU, .ref rT, .int rg, .ref rS, .ref rB, .ref rP, .ref rG, .long ab0, .long be0, .int (nI mk), .ref rM, .int (nI (adAll Ti mk).length), .ref rN, .ref rL, .ref rZ, .ref rE, .ref rI, .int hc, .ref rA, .ref rX, .int lnn, .ref rV, .ref rW, .int sl, .ref rC, .ref rF, .ref rQ, .ref rK, .ref rR, .ref rD])), (rM, .inl (E.2 1, 60, .inl (nA Ti))), (rN, .inl (E.2 1, 120, .inl (nA T2_43)))] := hD
  have hm_43 := hw
  have hic : ∀ j, j + 1 < (adAll Ti mk).length → T2_43 j < T2_43 (j + 1) := fun j hj => by rw [hm_43 j (by omega), hm_43 (j + 1) hj]; exact SPw_lt i1 (by omega) hj
  have hbd : ∀ j, j < (adAll Ti mk).length → T2_43 j ≤ 1000000 := fun j hj => by
    rw [hm_43 j hj]
    rcases Nat.eq_zero_or_pos mk with e | e
    · subst e; exact absurd hj (Nat.not_lt_zero j)
    · exact Nat.le_trans (i3 e _ (getD_mem hj)) (htb _ (by omega))
  have htmc : ∀ b j, b + 1 < (adAll Ti mk).length → tmF T2_43 b j = tmF (fun i => (adAll Ti mk).getD i 0) b j := fun b j hb => by unfold tmF; rw [hm_43 b (by omega), hm_43 (b + 1) hb]
  refine lv_iload_n hx hb dX9_cut_46 rfl (lv_at hl 2 rfl) ?_
  refine lv_aload_n hx hb dX9_cut_47 rfl (lv_at hl 0 rfl) ?_
  refine va_get (D := E.1) (ci := 9) (v := .int (nI (adAll Ti mk).length)) (C := RX9) (T := TX9) (N := 32) hx hb hts hinX9 hown hK hP 6 rfl rfl 13 (by decide) (hts (.fieldLink RX9 151 "WornRingsModel" "mended" "I") (by decide +kernel)) (fun _ h9 => h9) rfl dX9_cut_48 ?_
  refine lv_iconst (v := 1) hx hb dX9_cut_51 (by decide) ?_
  refine lv_isub hx hb dX9_cut_52 ?_
  refine lv_iload_n hx hb dX9_cut_53 rfl (lv_at hl 3 rfl) ?_
  refine lv_isub hx hb dX9_cut_54 ?_
  refine lv_icmp_le (tgt := 61) hx hb dX9_cut_55 (by decide) (fun c_55 => ?_) (fun c_55 => ?_)
  · have c_55 : tt + cc + 1 ≤ (adAll Ti mk).length := by
      rw [Int32.le_iff_toInt_le, ht_sub i2 (by omega), nI_toInt (by omega)] at c_55
      omega
    refine lv_iconst (v := 0) hx hb dX9_cut_61 (by decide) ?_
    refine lv_istore (lv' := [(4, .int 0), (0, .ref m0), (1, .int (nI kk)), (2, .int (nI tt)), (3, .int (nI cc))]) hx hb dX9_cut_62 hl (by decide) rfl (fun ls hl => ?_)
    refine (fun (lp64 : ∀ (n9 : Nat) (j : Nat) (SS : Nat → Int64) (H : Heap) (locs : List Loc) (ls : Array Slot), (32 - j) < n9 → (j ≤ 32) → va_P E.1 vwCl [(m0, .inr (9, [.int sh, .ref rO, .ref rU, .ref rT, .int rg, .ref rS, .ref rB, .ref rP, .ref rG, .long ab0, .long be0, .int (nI mk), .ref rM, .int (nI (adAll Ti mk).length), .ref rN, .ref rL, .ref rZ, .ref rE, .ref rI, .int hc, .ref rA, .ref rX, .int lnn, .ref rV, .ref rW, .int sl, .ref rC, .ref rF, .ref rQ, .ref rK, .ref rR, .ref rD])), (rL, .inl (E.2 1, 4, .inl La)), (rZ, .inl (E.2 1, 4, .inl (nA Sz))), (rE, .inl (E.2 1, 4, .inl (nA Sp))), (rI, .inl (E.2 1, 800, .inl It)), (rM, .inl (E.2 1, 60, .inl (nA Ti))), (rN, .inl (E.2 1, 120, .inl (nA T2_43))), (rA, .inl (E.2 1, 32, .inl gm)), (rX, .inl (E.2 2, 32, .inr (.inl SS)))] H → va_D A [(m0, .inr (9, [.int sh, .ref rO, .ref rU, .ref rT, .int rg, .ref rS, .ref rB, .ref rP, .ref rG, .long ab0, .long be0, .int (nI mk), .ref rM, .int (nI (adAll Ti mk).length), .ref rN, .ref rL, .ref rZ, .ref rE, .ref rI, .int hc, .ref rA, .ref rX, .int lnn, .ref rV, .ref rW, .int sl, .ref rC, .ref rF, .ref rQ, .ref rK, .ref rR, .ref rD])), (rL, .inl (E.2 1, 4, .inl La)), (rZ, .inl (E.2 1, 4, .inl (nA Sz))), (rE, .inl (E.2 1, 4, .inl (nA Sp))), (rI, .inl (E.2 1, 800, .inl It)), (rM, .inl (E.2 1, 60, .inl (nA Ti))), (rN, .inl (E.2 1, 120, .inl (nA T2_43))), (rA, .inl (E.2 1, 32, .inl gm)), (rX, .inl (E.2 2, 32, .inr (.inl SS)))] → va_S A s.heap H locs → lv_has ls 10 [(0, .ref m0), (1, .int (nI kk)), (2, .int (nI tt)), (3, .int (nI cc)), (4, .int (nI j))] → W p l e _ s m _ below meth c H locs _ _ _ (F0 m 64 ls [])) => lp64 (33) 0 Su _ _ _ (by omega) (by omega) (hP.sub [6, 0, 1, 2, 3, 7, 8, 4, 5] rfl) (hD.sub [6, 0, 1, 2, 3, 7, 8, 4, 5] (by decide) rfl) hS (lv_sub hl [1, 2, 3, 4, 0] rfl)) ?_
    intro n64
    induction n64 with
    | zero => intro j SS H locs ls h0; exact absurd (by assumption) (Nat.not_lt_zero _)
    | succ n64 ih64 =>
      intro j SS H locs ls hmu64 hj hP hD hS hl
      refine lv_iload hx hb dX9_cut_64 (lv_at hl 4 rfl) ?_
      refine lv_bipush (v := 32) hx hb dX9_cut_66 (by decide) ?_
      refine lv_icmp_ge (tgt := 85) hx hb dX9_cut_68 (by decide) (fun c_68 => ?_) (fun c_68 => ?_)
      · have c_68 : 32 ≤ j := (nI_leI (a := 32) (b := j) (by omega) (by omega)).mp c_68
        refine lv_iload_n hx hb dX9_cut_85 rfl (lv_at hl 2 rfl) ?_
        refine lv_istore (lv' := [(4, .int (nI tt)), (0, .ref m0), (1, .int (nI kk)), (2, .int (nI tt)), (3, .int (nI cc))]) hx hb dX9_cut_86 hl (by decide) rfl (fun ls hl => ?_)
        refine (fun (lp88 : ∀ (n9 : Nat) (k : Nat) (SS : Nat → Int64) (H : Heap) (locs : List Loc) (ls : Array Slot), (tt + cc - k) < n9 → (tt ≤ k) → (k ≤ tt + cc) → (∀ b c, tt ≤ b → b < k → c < 32 → 1 ≤ Sz kk ∧ tmF T2_43 b c ≤ (Sz kk - 1) * Sp kk) → va_P E.1 vwCl [(m0, .inr (9, [.int sh, .ref rO, .ref rU, .ref rT, .int rg, .ref rS, .ref rB, .ref rP, .ref rG, .long ab0, .long be0, .int (nI mk), .ref rM, .int (nI (adAll Ti mk).length), .ref rN, .ref rL, .ref rZ, .ref rE, .ref rI, .int hc, .ref rA, .ref rX, .int lnn, .ref rV, .ref rW, .int sl, .ref rC, .ref rF, .ref rQ, .ref rK, .ref rR, .ref rD])), (rL, .inl (E.2 1, 4, .inl La)), (rZ, .inl (E.2 1, 4, .inl (nA Sz))), (rE, .inl (E.2 1, 4, .inl (nA Sp))), (rI, .inl (E.2 1, 800, .inl It)), (rM, .inl (E.2 1, 60, .inl (nA Ti))), (rN, .inl (E.2 1, 120, .inl (nA T2_43))), (rA, .inl (E.2 1, 32, .inl gm)), (rX, .inl (E.2 2, 32, .inr (.inl SS)))] H → va_D A [(m0, .inr (9, [.int sh, .ref rO, .ref rU, .ref rT, .int rg, .ref rS, .ref rB, .ref rP, .ref rG, .long ab0, .long be0, .int (nI mk), .ref rM, .int (nI (adAll Ti mk).length), .ref rN, .ref rL, .ref rZ, .ref rE, .ref rI, .int hc, .ref rA, .ref rX, .int lnn, .ref rV, .ref rW, .int sl, .ref rC, .ref rF, .ref rQ, .ref rK, .ref rR, .ref rD])), (rL, .inl (E.2 1, 4, .inl La)), (rZ, .inl (E.2 1, 4, .inl (nA Sz))), (rE, .inl (E.2 1, 4, .inl (nA Sp))), (rI, .inl (E.2 1, 800, .inl It)), (rM, .inl (E.2 1, 60, .inl (nA Ti))), (rN, .inl (E.2 1, 120, .inl (nA T2_43))), (rA, .inl (E.2 1, 32, .inl gm)), (rX, .inl (E.2 2, 32, .inr (.inl SS)))] → va_S A s.heap H locs → lv_has ls 10 [(0, .ref m0), (1, .int (nI kk)), (2, .int (nI tt)), (3, .int (nI cc)), (4, .int (nI k))] → W p l e _ s m _ below meth c H locs _ _ _ (F0 m 88 ls [])) => lp88 (tt + cc + 1) tt SS _ _ _ (by omega) (by omega) (by omega) (fun b c h9 h8 _ => absurd h8 (by omega)) (hP.sub [0, 1, 2, 3, 4, 5, 6, 7, 8] rfl) (hD.sub [0, 1, 2, 3, 4, 5, 6, 7, 8] (by decide) rfl) hS (lv_sub hl [1, 2, 3, 4, 0] rfl)) ?_
        intro n88
        induction n88 with
        | zero => intro k SS H locs ls h0; exact absurd (by assumption) (Nat.not_lt_zero _)
        | succ n88 ih88 =>
          intro k SS H locs ls hmu88 hk1 hk2 hok hP hD hS hl
          refine lv_iload hx hb dX9_cut_88 (lv_at hl 4 rfl) ?_
          refine lv_iload_n hx hb dX9_cut_90 rfl (lv_at hl 2 rfl) ?_
          refine lv_iload_n hx hb dX9_cut_91 rfl (lv_at hl 3 rfl) ?_
          refine lv_iadd hx hb dX9_cut_92 ?_
          rw [show ((nI tt) + (nI cc) : Int32) = nI (tt + cc) from nI_add tt cc]
          refine lv_icmp_ge (tgt := 198) hx hb dX9_cut_93 (by decide) (fun c_93 => ?_) (fun c_93 => ?_)
          · have c_93 : (tt + cc) ≤ k := (nI_leI (a := tt + cc) (b := k) (by omega) (by omega)).mp c_93
            exfalso
            exact hno ⟨c_55, fun b j h9 h8 h7 => by have h6 := hok b j h9 (by omega) h7; rw [htmc b j (by omega)] at h6; exact h6⟩
          · have c_93 : ¬ (tt + cc) ≤ k := fun h9 => c_93 ((nI_leI (a := tt + cc) (b := k) (by omega) (by omega)).mpr h9)
            have h93 := hic k (by omega)
            have h94 := hbd (k + 1) (by omega)
            have h95 := hbd k (by omega)
            refine lv_aload_n hx hb dX9_cut_96 rfl (lv_at hl 0 rfl) ?_
            refine va_get (D := E.1) (ci := 9) (v := .ref rN) (C := RX9) (T := TX9) (N := 32) hx hb hts hinX9 hown hK hP 0 rfl rfl 14 (by decide) (hts (.fieldLink RX9 39 "WornRingsModel" "turns" "[I") (by decide +kernel)) (fun _ h9 => h9) rfl dX9_cut_97 ?_
            refine lv_iload hx hb dX9_cut_100 (lv_at hl 4 rfl) ?_
            refine va_iald hx hb hK hP 6 1 rfl rfl (vp_in_nI (by omega) (by omega)) dX9_cut_102 ?_
            rw [nI_clamp (n := k) (by omega)]
            refine W.eq (g2 := F0 m 103 ls [.int (nI (T2_43 k))]) rfl ?_
            refine lv_istore (lv' := [(5, .int (nI (T2_43 k))), (0, .ref m0), (1, .int (nI kk)), (2, .int (nI tt)), (3, .int (nI cc)), (4, .int (nI k))]) hx hb dX9_cut_103 hl (by decide) rfl (fun ls hl => ?_)
            refine lv_aload_n hx hb dX9_cut_105 rfl (lv_at hl 1 rfl) ?_
            refine va_get (D := E.1) (ci := 9) (v := .ref rN) (C := RX9) (T := TX9) (N := 32) hx hb hts hinX9 hown hK hP 0 rfl rfl 14 (by decide) (hts (.fieldLink RX9 39 "WornRingsModel" "turns" "[I") (by decide +kernel)) (fun _ h9 => h9) rfl dX9_cut_106 ?_
            refine lv_iload hx hb dX9_cut_109 (lv_at hl 5 rfl) ?_
            refine lv_iconst (v := 1) hx hb dX9_cut_111 (by decide) ?_
            refine lv_iadd hx hb dX9_cut_112 ?_
            rw [show ((nI k) + (1 : Int32) : Int32) = nI (k + 1) from nI_add k 1]
            refine va_iald hx hb hK hP 6 1 rfl rfl (vp_in_nI (by omega) (by omega)) dX9_cut_113 ?_
            rw [nI_clamp (n := k + 1) (by omega)]
            refine W.eq (g2 := F0 m 114 ls [.int (nI (T2_43 (k + 1)))]) rfl ?_
            refine lv_iload hx hb dX9_cut_114 (lv_at hl 0 rfl) ?_
            refine lv_isub hx hb dX9_cut_116 ?_
            rw [show ((nI (T2_43 (k + 1))) - (nI (T2_43 k)) : Int32) = nI ((T2_43 (k + 1)) - (T2_43 k)) from pk_sub (a := (T2_43 (k + 1))) (b := (T2_43 k)) (by omega)]
            refine lv_i2l (v := lN ((T2_43 (k + 1)) - (T2_43 k))) hx hb dX9_cut_117 (nI_l (by omega)) ?_
            refine lv_lstore (lv' := [(6, .long (lN ((T2_43 (k + 1)) - (T2_43 k)))), (5, .int (nI (T2_43 k))), (0, .ref m0), (1, .int (nI kk)), (2, .int (nI tt)), (3, .int (nI cc)), (4, .int (nI k))]) hx hb dX9_cut_118 hl (by decide) rfl (fun ls hl => ?_)
            refine lv_iconst (v := 0) hx hb dX9_cut_120 (by decide) ?_
            refine lv_istore (lv' := [(8, .int 0), (6, .long (lN ((T2_43 (k + 1)) - (T2_43 k)))), (5, .int (nI (T2_43 k))), (0, .ref m0), (1, .int (nI kk)), (2, .int (nI tt)), (3, .int (nI cc)), (4, .int (nI k))]) hx hb dX9_cut_121 hl (by decide) rfl (fun ls hl => ?_)
            refine (fun (lp123 : ∀ (n9 : Nat) (j : Nat) (SS : Nat → Int64) (H : Heap) (locs : List Loc) (ls : Array Slot), (32 - j) < n9 → (j ≤ 32) → (∀ c, c < j → 1 ≤ Sz kk ∧ tmF T2_43 k c ≤ (Sz kk - 1) * Sp kk) → va_P E.1 vwCl [(m0, .inr (9, [.int sh, .ref rO, .ref rU, .ref rT, .int rg, .ref rS, .ref rB, .ref rP, .ref rG, .long ab0, .long be0, .int (nI mk), .ref rM, .int (nI (adAll Ti mk).length), .ref rN, .ref rL, .ref rZ, .ref rE, .ref rI, .int hc, .ref rA, .ref rX, .int lnn, .ref rV, .ref rW, .int sl, .ref rC, .ref rF, .ref rQ, .ref rK, .ref rR, .ref rD])), (rL, .inl (E.2 1, 4, .inl La)), (rZ, .inl (E.2 1, 4, .inl (nA Sz))), (rE, .inl (E.2 1, 4, .inl (nA Sp))), (rI, .inl (E.2 1, 800, .inl It)), (rM, .inl (E.2 1, 60, .inl (nA Ti))), (rN, .inl (E.2 1, 120, .inl (nA T2_43))), (rA, .inl (E.2 1, 32, .inl gm)), (rX, .inl (E.2 2, 32, .inr (.inl SS)))] H → va_D A [(m0, .inr (9, [.int sh, .ref rO, .ref rU, .ref rT, .int rg, .ref rS, .ref rB, .ref rP, .ref rG, .long ab0, .long be0, .int (nI mk), .ref rM, .int (nI (adAll Ti mk).length), .ref rN, .ref rL, .ref rZ, .ref rE, .ref rI, .int hc, .ref rA, .ref rX, .int lnn, .ref rV, .ref rW, .int sl, .ref rC, .ref rF, .ref rQ, .ref rK, .ref rR, .ref rD])), (rL, .inl (E.2 1, 4, .inl La)), (rZ, .inl (E.2 1, 4, .inl (nA Sz))), (rE, .inl (E.2 1, 4, .inl (nA Sp))), (rI, .inl (E.2 1, 800, .inl It)), (rM, .inl (E.2 1, 60, .inl (nA Ti))), (rN, .inl (E.2 1, 120, .inl (nA T2_43))), (rA, .inl (E.2 1, 32, .inl gm)), (rX, .inl (E.2 2, 32, .inr (.inl SS)))] → va_S A s.heap H locs → lv_has ls 10 [(0, .ref m0), (1, .int (nI kk)), (2, .int (nI tt)), (3, .int (nI cc)), (4, .int (nI k)), (5, .int (nI (T2_43 k))), (6, .long (lN (T2_43 (k + 1) - T2_43 k))), (8, .int (nI j))] → W p l e _ s m _ below meth c H locs _ _ _ (F0 m 123 ls [])) => lp123 (33) 0 SS _ _ _ (by omega) (by omega) (fun c h9 => absurd h9 (Nat.not_lt_zero c)) (hP.sub [0, 1, 2, 3, 4, 5, 6, 7, 8] rfl) (hD.sub [0, 1, 2, 3, 4, 5, 6, 7, 8] (by decide) rfl) hS (lv_sub hl [3, 4, 5, 6, 7, 2, 1, 0] rfl)) ?_
            intro n123
            induction n123 with
            | zero => intro j SS H locs ls h0; exact absurd (by assumption) (Nat.not_lt_zero _)
            | succ n123 ih123 =>
              intro j SS H locs ls hmu123 hj hoj hP hD hS hl
              refine lv_iload hx hb dX9_cut_123 (lv_at hl 7 rfl) ?_
              refine lv_bipush (v := 32) hx hb dX9_cut_125 (by decide) ?_
              refine lv_icmp_ge (tgt := 192) hx hb dX9_cut_127 (by decide) (fun c_127 => ?_) (fun c_127 => ?_)
              · have c_127 : 32 ≤ j := (nI_leI (a := 32) (b := j) (by omega) (by omega)).mp c_127
                refine lv_iinc (v := nI (k + 1)) (lv' := [(4, .int (nI (k + 1))), (0, .ref m0), (1, .int (nI kk)), (2, .int (nI tt)), (3, .int (nI cc)), (5, .int (nI (T2_43 k))), (6, .long (lN (T2_43 (k + 1) - T2_43 k))), (8, .int (nI j))]) hx hb dX9_cut_192 hl (k := 4) rfl (nI_add k 1) (by decide) rfl (fun ls hl => ?_)
                refine lv_goto (tgt := 88) hx hb dX9_cut_195 (by decide) ?_
                exact ih88 (k + 1) SS _ _ _ (by omega) (by omega) (by omega) (fun b c h9 h8 h7 => by
        rcases Nat.lt_or_ge b k with g | g
        · exact hok b c h9 g h7
        · have eb : b = k := by omega
          subst eb; exact hoj c (by omega)) (hP.sub [0, 1, 2, 3, 4, 5, 6, 7, 8] rfl) (hD.sub [0, 1, 2, 3, 4, 5, 6, 7, 8] (by decide) rfl) hS (lv_sub hl [1, 2, 3, 4, 0] rfl)
              · have c_127 : ¬ 32 ≤ j := fun h9 => c_127 ((nI_leI (a := 32) (b := j) (by omega) (by omega)).mpr h9)
                have h127 := hic k (by omega)
                have h128 := hbd (k + 1) (by omega)
                have h129 := hbd k (by omega)
                refine lv_iload hx hb dX9_cut_130 (lv_at hl 5 rfl) ?_
                refine lv_lload hx hb dX9_cut_132 (lv_at hl 6 rfl) ?_
                refine lv_iload hx hb dX9_cut_134 (lv_at hl 7 rfl) ?_
                refine lv_i2l (v := lN j) hx hb dX9_cut_136 (nI_l (by omega)) ?_
                refine lv_lmul hx hb dX9_cut_137 ?_
                rw [show ((lN (T2_43 (k + 1) - T2_43 k)) * (lN j) : Int64) = lN ((T2_43 (k + 1) - T2_43 k) * j) from lN_mul (T2_43 (k + 1) - T2_43 k) j]
                refine lv_ldc2 (v := 32) hx hb hown (hts (.constantLong RX9 177 (32)) (by decide +kernel)) dX9_cut_138 ?_
                refine lv_ldiv hx hb dX9_cut_141 (by decide) ?_
                rw [show ((lN ((T2_43 (k + 1) - T2_43 k) * j)) / (32 : Int64) : Int64) = lN (((T2_43 (k + 1) - T2_43 k) * j) / 32) from pk_lDiv (a := (T2_43 (k + 1) - T2_43 k) * j) (b := 32) (by have h9 := Nat.mul_le_mul (show T2_43 (k + 1) - T2_43 k ≤ 1000000 by have h8 := hbd (k + 1) (by omega); omega) (show j ≤ 32 by omega); omega) (by omega) (by omega)]
                refine lv_l2i (v := nI (((T2_43 (k + 1) - T2_43 k) * j) / 32)) hx hb dX9_cut_142 (lN_i _) ?_
                refine lv_iadd hx hb dX9_cut_143 ?_
                rw [show ((nI (T2_43 k)) + (nI (((T2_43 (k + 1) - T2_43 k) * j) / 32)) : Int32) = nI ((T2_43 k) + (((T2_43 (k + 1) - T2_43 k) * j) / 32)) from nI_add (T2_43 k) (((T2_43 (k + 1) - T2_43 k) * j) / 32)]
                rw [show (nI ((T2_43 k) + (((T2_43 (k + 1) - T2_43 k) * j) / 32)) : Int32) = nI (tmF T2_43 k j) from rfl]
                have htm := tm_le (n := 0) (j := j) (hic k (by omega)) (hbd (k + 1) (by omega)) (by omega)
                refine lv_istore (lv' := [(9, .int (nI (tmF T2_43 k j))), (0, .ref m0), (1, .int (nI kk)), (2, .int (nI tt)), (3, .int (nI cc)), (4, .int (nI k)), (5, .int (nI (T2_43 k))), (6, .long (lN (T2_43 (k + 1) - T2_43 k))), (8, .int (nI j))]) hx hb dX9_cut_144 hl (by decide) rfl (fun ls hl => ?_)
                refine lv_iload hx hb dX9_cut_146 (lv_at hl 0 rfl) ?_
                refine lv_aload_n hx hb dX9_cut_148 rfl (lv_at hl 1 rfl) ?_
                refine va_get (D := E.1) (ci := 9) (v := .ref rZ) (C := RX9) (T := TX9) (N := 32) hx hb hts hinX9 hown hK hP 0 rfl rfl 16 (by decide) (hts (.fieldLink RX9 45 "WornRingsModel" "sizes" "[I") (by decide +kernel)) (fun _ h9 => h9) rfl dX9_cut_149 ?_
                refine lv_iload_n hx hb dX9_cut_152 rfl (lv_at hl 2 rfl) ?_
                refine va_iald hx hb hK hP 2 1 rfl rfl (vp_in_nI (by omega) (by omega)) dX9_cut_153 ?_
                rw [nI_clamp (n := kk) (by omega)]
                refine W.eq (g2 := F0 m 154 ls [.int (nI (Sz kk)), .int (nI (tmF T2_43 k j))]) rfl ?_
                refine lv_iconst (v := 1) hx hb dX9_cut_154 (by decide) ?_
                refine lv_isub hx hb dX9_cut_155 ?_
                refine lv_aload_n hx hb dX9_cut_156 rfl (lv_at hl 1 rfl) ?_
                refine va_get (D := E.1) (ci := 9) (v := .ref rE) (C := RX9) (T := TX9) (N := 32) hx hb hts hinX9 hown hK hP 0 rfl rfl 17 (by decide) (hts (.fieldLink RX9 48 "WornRingsModel" "steps" "[I") (by decide +kernel)) (fun _ h9 => h9) rfl dX9_cut_157 ?_
                refine lv_iload_n hx hb dX9_cut_160 rfl (lv_at hl 2 rfl) ?_
                refine va_iald hx hb hK hP 3 1 rfl rfl (vp_in_nI (by omega) (by omega)) dX9_cut_161 ?_
                rw [nI_clamp (n := kk) (by omega)]
                refine W.eq (g2 := F0 m 162 ls [.int (nI (Sp kk)), .int ((nI (Sz kk)) - 1), .int (nI (tmF T2_43 k j))]) rfl ?_
                refine lv_imul hx hb dX9_cut_162 ?_
                refine lv_icmp_le (tgt := 169) hx hb dX9_cut_163 (by decide) (fun c_163 => ?_) (fun c_163 => ?_)
                · have c_163 := (le_lh (by omega) hn hs1 hs2).mp c_163
                  obtain ⟨hx1, hx2⟩ := hd_ix c_163.1 hn hs1 c_163.2
                  refine lv_aload_n hx hb dX9_cut_169 rfl (lv_at hl 1 rfl) ?_
                  refine va_get (D := E.1) (ci := 9) (v := .ref rX) (C := RX9) (T := TX9) (N := 32) hx hb hts hinX9 hown hK hP 0 rfl rfl 21 (by decide) (hts (.fieldLink RX9 57 "WornRingsModel" "sums" "[J") (by decide +kernel)) (fun _ h9 => h9) rfl dX9_cut_170 ?_
                  refine lv_iload hx hb dX9_cut_173 (lv_at hl 8 rfl) ?_
                  refine lv_dup2_11 hx hb dX9_cut_175 rfl rfl ?_
                  refine va_lald hx hb hK hP 8 2 rfl rfl (vp_in_nI (by omega) (by omega)) dX9_cut_176 ?_
                  rw [nI_clamp (n := j) (by omega)]
                  refine lv_aload_n hx hb dX9_cut_177 rfl (lv_at hl 1 rfl) ?_
                  refine lv_iload_n hx hb dX9_cut_178 rfl (lv_at hl 2 rfl) ?_
                  refine lv_iload hx hb dX9_cut_179 (lv_at hl 0 rfl) ?_
                  refine rVl hE ⟨hx, hb, hml, hown, hts⟩ (c_X9_heard l E m0 sh rO rU rT rg rS rB rP rG ab0 be0 (nI mk) rM (nI (adAll Ti mk).length) rN rL rZ rE rI hc rA rX lnn rV rW sl rC rF rQ rK rR rD Sp It kk (tmF T2_43 k j) (hk) (hs1) (hs2) (hx1) (hx2) (by omega)) (cwV 2 hts gX9_cut_X9_heard rfl rfl rfl (by decide +kernel) ⟨Nat.le_of_ble_eq_true rfl, Nat.le_of_ble_eq_true rfl⟩) (hP.sub [0, 3, 4] rfl) 0 9 rfl rfl rfl hl.1 rfl (Nat.le_of_ble_eq_true rfl) dX9_cut_181 ⟨(Nat.zero_le _), (Nat.zero_le _)⟩ ?_
                  refine lv_ladd hx hb dX9_cut_184 ?_
                  refine va_last hx hb hK hP hD hS 8 2 rfl rfl (vp_in_nI (by omega) (by omega)) dX9_cut_185 (fun H locs hP hD hS => ?_)
                  rw [nI_clamp (n := j) (by omega)] at hP hD
                  have hP : va_P E.1 vwCl [(m0, .inr (9, [.int sh, .ref rO, .ref rU, .ref rT, .int rg, .ref rS, .ref rB, .ref rP, .ref rG, .long ab0, .long be0, .int (nI mk), .ref rM, .int (nI (adAll Ti mk).length), .ref rN, .ref rL, .ref rZ, .ref rE, .ref rI, .int hc, .ref rA, .ref rX, .int lnn, .ref rV, .ref rW, .int sl, .ref rC, .ref rF, .ref rQ, .ref rK, .ref rR, .ref rD])), (rL, .inl (E.2 1, 4, .inl La)), (rZ, .inl (E.2 1, 4, .inl (nA Sz))), (rE, .inl (E.2 1, 4, .inl (nA Sp))), (rI, .inl (E.2 1, 800, .inl It)), (rM, .inl (E.2 1, 60, .inl (nA Ti))), (rN, .inl (E.2 1, 120, .inl (nA T2_43))), (rA, .inl (E.2 1, 32, .inl gm)), (rX, .inl (E.2 2, 32, .inr (.inl (vp_updL SS j ((SS j) + (fHd It kk (Sp kk) (tmF T2_43 k j)))))))] H := hP
                  have hD : va_D A [(m0, .inr (9, [.int sh, .ref rO, .ref rU, .ref rT, .int rg, .ref rS, .ref rB, .ref rP, .ref rG, .long ab0, .long be0, .int (nI mk), .ref rM, .int (nI (adAll Ti mk).length), .ref rN, .ref rL, .ref rZ, .ref rE, .ref rI, .int hc, .ref rA, .ref rX, .int lnn, .ref rV, .ref rW, .int sl, .ref rC, .ref rF, .ref rQ, .ref rK, .ref rR, .ref rD])), (rL, .inl (E.2 1, 4, .inl La)), (rZ, .inl (E.2 1, 4, .inl (nA Sz))), (rE, .inl (E.2 1, 4, .inl (nA Sp))), (rI, .inl (E.2 1, 800, .inl It)), (rM, .inl (E.2 1, 60, .inl (nA Ti))), (rN, .inl (E.2 1, 120, .inl (nA T2_43))), (rA, .inl (E.2 1, 32, .inl gm)), (rX, .inl (E.2 2, 32, .inr (.inl (vp_updL SS j ((SS j) + (fHd It kk (Sp kk) (tmF T2_43 k j)))))))] := hD
                  refine lv_iinc (v := nI (j + 1)) (lv' := [(8, .int (nI (j + 1))), (9, .int (nI (tmF T2_43 k j))), (0, .ref m0), (1, .int (nI kk)), (2, .int (nI tt)), (3, .int (nI cc)), (4, .int (nI k)), (5, .int (nI (T2_43 k))), (6, .long (lN (T2_43 (k + 1) - T2_43 k)))]) hx hb dX9_cut_186 hl (k := 8) rfl (nI_add j 1) (by decide) rfl (fun ls hl => ?_)
                  refine lv_goto (tgt := 123) hx hb dX9_cut_189 (by decide) ?_
                  exact ih123 (j + 1) (vp_updL SS j ((SS j) + (fHd It kk (Sp kk) (tmF T2_43 k j)))) _ _ _ (by omega) (by omega) (fun c h9 => by
        rcases Nat.lt_or_ge c j with g | g
        · exact hoj c g
        · have ec : c = j := by omega
          subst ec; exact c_163) (hP.sub [0, 1, 2, 3, 4, 5, 6, 7, 8] rfl) (hD.sub [0, 1, 2, 3, 4, 5, 6, 7, 8] (by decide) rfl) hS (lv_sub hl [2, 3, 4, 5, 6, 7, 8, 0] rfl)
                · have c_163 := fun h9 => c_163 ((le_lh (t := tmF T2_43 k j) (by omega) hn hs1 hs2).mpr h9)
                  refine lv_bipush (v := (-2)) hx hb dX9_cut_166 (by decide) ?_
                  have hP9 : va_P E.1 vwCl [(m0, .inr (9, [.int sh, .ref rO, .ref rU, .ref rT, .int rg, .ref rS, .ref rB, .ref rP, .ref rG, .long ab0, .long be0, .int (nI mk), .ref rM, .int (nI (adAll Ti mk).length), .ref rN, .ref rL, .ref rZ, .ref rE, .ref rI, .int hc, .ref rA, .ref rX, .int lnn, .ref rV, .ref rW, .int sl, .ref rC, .ref rF, .ref rQ, .ref rK, .ref rR, .ref rD])), (rL, .inl (E.2 1, 4, .inl La)), (rZ, .inl (E.2 1, 4, .inl (nA Sz))), (rE, .inl (E.2 1, 4, .inl (nA Sp))), (rI, .inl (E.2 1, 800, .inl It)), (rM, .inl (E.2 1, 60, .inl (nA Ti))), (rN, .inl (E.2 1, 120, .inl (nA T2_43))), (rA, .inl (E.2 1, 32, .inl gm)), (rX, .inl (E.2 2, 32, .inr (.inl SS)))] H := hP.sub [0, 1, 2, 3, 4, 5, 6, 7, 8] rfl
                  have hD9 : va_D A [(m0, .inr (9, [.int sh, .ref rO, .ref rU, .ref rT, .int rg, .ref rS, .ref rB, .ref rP, .ref rG, .long ab0, .long be0, .int (nI mk), .ref rM, .int (nI (adAll Ti mk).length), .ref rN, .ref rL, .ref rZ, .ref rE, .ref rI, .int hc, .ref rA, .ref rX, .int lnn, .ref rV, .ref rW, .int sl, .ref rC, .ref rF, .ref rQ, .ref rK, .ref rR, .ref rD])), (rL, .inl (E.2 1, 4, .inl La)), (rZ, .inl (E.2 1, 4, .inl (nA Sz))), (rE, .inl (E.2 1, 4, .inl (nA Sp))), (rI, .inl (E.2 1, 800, .inl It)), (rM, .inl (E.2 1, 60, .inl (nA Ti))), (rN, .inl (E.2 1, 120, .inl (nA T2_43))), (rA, .inl (E.2 1, 32, .inl gm)), (rX, .inl (E.2 2, 32, .inr (.inl SS)))] := hD.sub [0, 1, 2, 3, 4, 5, 6, 7, 8] (by decide) rfl
                  exact W.iret (v := (-2)) hx hb hr (fun t9 ht9 hW9 => ⟨⟨(-2), (T2_43, SS), rfl, ⟨rfl, hm_43⟩, ⟨by rw [ht9]; exact hP9, hD9⟩⟩, hS.F ht9⟩) hS.2.2 dX9_cut_168
      · have c_68 : ¬ 32 ≤ j := fun h9 => c_68 ((nI_leI (a := 32) (b := j) (by omega) (by omega)).mpr h9)
        refine lv_aload_n hx hb dX9_cut_71 rfl (lv_at hl 0 rfl) ?_
        refine va_get (D := E.1) (ci := 9) (v := .ref rX) (C := RX9) (T := TX9) (N := 32) hx hb hts hinX9 hown hK hP 0 rfl rfl 21 (by decide) (hts (.fieldLink RX9 57 "WornRingsModel" "sums" "[J") (by decide +kernel)) (fun _ h9 => h9) rfl dX9_cut_72 ?_
        refine lv_iload hx hb dX9_cut_75 (lv_at hl 4 rfl) ?_
        refine lv_lconst (v := 0) hx hb dX9_cut_77 (by decide) ?_
        refine va_last hx hb hK hP hD hS 8 2 rfl rfl (vp_in_nI (by omega) (by omega)) dX9_cut_78 (fun H locs hP hD hS => ?_)
        rw [nI_clamp (n := j) (by omega)] at hP hD
        have hP : va_P E.1 vwCl [(m0, .inr (9, [.int sh, .ref rO, .ref rU, .ref rT, .int rg, .ref rS, .ref rB, .ref rP, .ref rG, .long ab0, .long be0, .int (nI mk), .ref rM, .int (nI (adAll Ti mk).length), .ref rN, .ref rL, .ref rZ, .ref rE, .ref rI, .int hc, .ref rA, .ref rX, .int lnn, .ref rV, .ref rW, .int sl, .ref rC, .ref rF, .ref rQ, .ref rK, .ref rR, .ref rD])), (rL, .inl (E.2 1, 4, .inl La)), (rZ, .inl (E.2 1, 4, .inl (nA Sz))), (rE, .inl (E.2 1, 4, .inl (nA Sp))), (rI, .inl (E.2 1, 800, .inl It)), (rM, .inl (E.2 1, 60, .inl (nA Ti))), (rN, .inl (E.2 1, 120, .inl (nA T2_43))), (rA, .inl (E.2 1, 32, .inl gm)), (rX, .inl (E.2 2, 32, .inr (.inl (vp_updL SS j 0))))] H := hP
        have hD : va_D A [(m0, .inr (9, [.int sh, .ref rO, .ref rU, .ref rT, .int rg, .ref rS, .ref rB, .ref rP, .ref rG, .long ab0, .long be0, .int (nI mk), .ref rM, .int (nI (adAll Ti mk).length), .ref rN, .ref rL, .ref rZ, .ref rE, .ref rI, .int hc, .ref rA, .ref rX, .int lnn, .ref rV, .ref rW, .int sl, .ref rC, .ref rF, .ref rQ, .ref rK, .ref rR, .ref rD])), (rL, .inl (E.2 1, 4, .inl La)), (rZ, .inl (E.2 1, 4, .inl (nA Sz))), (rE, .inl (E.2 1, 4, .inl (nA Sp))), (rI, .inl (E.2 1, 800, .inl It)), (rM, .inl (E.2 1, 60, .inl (nA Ti))), (rN, .inl (E.2 1, 120, .inl (nA T2_43))), (rA, .inl (E.2 1, 32, .inl gm)), (rX, .inl (E.2 2, 32, .inr (.inl (vp_updL SS j 0))))] := hD
        refine lv_iinc (v := nI (j + 1)) (lv' := [(4, .int (nI (j + 1))), (0, .ref m0), (1, .int (nI kk)), (2, .int (nI tt)), (3, .int (nI cc))]) hx hb dX9_cut_79 hl (k := 4) rfl (nI_add j 1) (by decide) rfl (fun ls hl => ?_)
        refine lv_goto (tgt := 64) hx hb dX9_cut_82 (by decide) ?_
        exact ih64 (j + 1) (vp_updL SS j 0) _ _ _ (by omega) (by omega) (hP.sub [0, 1, 2, 3, 4, 5, 6, 7, 8] rfl) (hD.sub [0, 1, 2, 3, 4, 5, 6, 7, 8] (by decide) rfl) hS (lv_sub hl [1, 2, 3, 4, 0] rfl)
  · have c_55 : ¬ tt + cc + 1 ≤ (adAll Ti mk).length := by
      rw [Int32.le_iff_toInt_le, ht_sub i2 (by omega), nI_toInt (by omega)] at c_55
      omega
    refine lv_bipush (v := (-2)) hx hb dX9_cut_58 (by decide) ?_
    have hP9 : va_P E.1 vwCl [(m0, .inr (9, [.int sh, .ref rO, .ref rU, .ref rT, .int rg, .ref rS, .ref rB, .ref rP, .ref rG, .long ab0, .long be0, .int (nI mk), .ref rM, .int (nI (adAll Ti mk).length), .ref rN, .ref rL, .ref rZ, .ref rE, .ref rI, .int hc, .ref rA, .ref rX, .int lnn, .ref rV, .ref rW, .int sl, .ref rC, .ref rF, .ref rQ, .ref rK, .ref rR, .ref rD])), (rL, .inl (E.2 1, 4, .inl La)), (rZ, .inl (E.2 1, 4, .inl (nA Sz))), (rE, .inl (E.2 1, 4, .inl (nA Sp))), (rI, .inl (E.2 1, 800, .inl It)), (rM, .inl (E.2 1, 60, .inl (nA Ti))), (rN, .inl (E.2 1, 120, .inl (nA T2_43))), (rA, .inl (E.2 1, 32, .inl gm)), (rX, .inl (E.2 2, 32, .inr (.inl Su)))] H := hP.sub [6, 0, 1, 2, 3, 7, 8, 4, 5] rfl
    have hD9 : va_D A [(m0, .inr (9, [.int sh, .ref rO, .ref rU, .ref rT, .int rg, .ref rS, .ref rB, .ref rP, .ref rG, .long ab0, .long be0, .int (nI mk), .ref rM, .int (nI (adAll Ti mk).length), .ref rN, .ref rL, .ref rZ, .ref rE, .ref rI, .int hc, .ref rA, .ref rX, .int lnn, .ref rV, .ref rW, .int sl, .ref rC, .ref rF, .ref rQ, .ref rK, .ref rR, .ref rD])), (rL, .inl (E.2 1, 4, .inl La)), (rZ, .inl (E.2 1, 4, .inl (nA Sz))), (rE, .inl (E.2 1, 4, .inl (nA Sp))), (rI, .inl (E.2 1, 800, .inl It)), (rM, .inl (E.2 1, 60, .inl (nA Ti))), (rN, .inl (E.2 1, 120, .inl (nA T2_43))), (rA, .inl (E.2 1, 32, .inl gm)), (rX, .inl (E.2 2, 32, .inr (.inl Su)))] := hD.sub [6, 0, 1, 2, 3, 7, 8, 4, 5] (by decide) rfl
    exact W.iret (v := (-2)) hx hb hr (fun t9 ht9 hW9 => ⟨⟨(-2), (T2_43, Su), rfl, ⟨rfl, hm_43⟩, ⟨by rw [ht9]; exact hP9, hD9⟩⟩, hS.F ht9⟩) hS.2.2 dX9_cut_60
set_option maxHeartbeats 1000000 in
set_option maxRecDepth 100000 in
theorem c_X9_cut_yes (l : Launch) (E : EnvT) (sz : Nat) (m0 : Nat) (sh : Int32) (rO : Nat) (rU : Nat) (rT : Nat) (rg : Int32) (rS : Nat) (rB : Nat) (rP : Nat) (rG : Nat) (ab0 : Int64) (be0 : Int64) (mk : Nat) (rM : Nat) (md : Int32) (rN : Nat) (rL : Nat) (rZ : Nat) (rE : Nat) (rI : Nat) (hc : Int32) (rA : Nat) (rX : Nat) (lnn : Int32) (rV : Nat) (rW : Nat) (sl : Int32) (rC : Nat) (rF : Nat) (rQ : Nat) (rK : Nat) (rR : Nat) (rD : Nat) (La : Nat → Int32) (Sz : Nat → Nat) (Sp : Nat → Nat) (It : Nat → Int32) (Ti : Nat → Nat) (Tn : Nat → Nat) (gm : Nat → Int32) (Su : Nat → Int64) (kk : Nat) (tt : Nat) (cc : Nat) (hk : kk < 4) (htt : tt < 2 ^ 31) (hc1 : 1 ≤ cc) (hc2 : cc ≤ 40) (hmk : mk ≤ 60) (hti : ∀ j, j + 1 < mk → Ti j < Ti (j + 1)) (htb : ∀ j, j < mk → Ti j ≤ 1000000) (hla : ¬ La kk < 0) (hn : Sz kk ≤ 200) (hs1 : 1 ≤ Sp kk) (hs2 : Sp kk ≤ 1000) (hyes : tt + cc + 1 ≤ (adAll Ti mk).length ∧ ∀ b j, tt ≤ b → b < tt + cc → j < 32 → 1 ≤ Sz kk ∧ tmF (fun i => (adAll Ti mk).getD i 0) b j ≤ (Sz kk - 1) * Sp kk) : Met l yX9_cut wsX9_cut ({ frames := 2, cells := 0, slots := 0, locals := 51 }) (va_Pc [.ref m0, .int (nI kk), .int (nI tt), .int (nI cc)] (PW E [(m0, .inr (9, [.int sh, .ref rO, .ref rU, .ref rT, .int rg, .ref rS, .ref rB, .ref rP, .ref rG, .long ab0, .long be0, .int (nI mk), .ref rM, .int md, .ref rN, .ref rL, .ref rZ, .ref rE, .ref rI, .int hc, .ref rA, .ref rX, .int lnn, .ref rV, .ref rW, .int sl, .ref rC, .ref rF, .ref rQ, .ref rK, .ref rR, .ref rD])), (rL, .inl (E.2 1, 4, .inl La)), (rZ, .inl (E.2 1, 4, .inl (nA Sz))), (rE, .inl (E.2 1, 4, .inl (nA Sp))), (rI, .inl (E.2 1, 800, .inl It)), (rM, .inl (E.2 1, 60, .inl (nA Ti))), (rN, .inl (E.2 1, 120, .inl (nA Tn))), (rA, .inl (E.2 1, 32, .inl gm)), (rX, .inl (E.2 2, 32, .inr (.inl Su)))] sz)) (va_Qi (fun (r : Int32) (uu : (Nat → Nat) × (Nat → Int64)) => r = nI cc ∧ (RLs uu.1 (adAll Ti mk))) (fun (uu : (Nat → Nat) × (Nat → Int64)) t => BW E (va_A [(m0, .inr (9, [.int sh, .ref rO, .ref rU, .ref rT, .int rg, .ref rS, .ref rB, .ref rP, .ref rG, .long ab0, .long be0, .int (nI mk), .ref rM, .int md, .ref rN, .ref rL, .ref rZ, .ref rE, .ref rI, .int hc, .ref rA, .ref rX, .int lnn, .ref rV, .ref rW, .int sl, .ref rC, .ref rF, .ref rQ, .ref rK, .ref rR, .ref rD])), (rL, .inl (E.2 1, 4, .inl La)), (rZ, .inl (E.2 1, 4, .inl (nA Sz))), (rE, .inl (E.2 1, 4, .inl (nA Sp))), (rI, .inl (E.2 1, 800, .inl It)), (rM, .inl (E.2 1, 60, .inl (nA Ti))), (rN, .inl (E.2 1, 120, .inl (nA Tn))), (rA, .inl (E.2 1, 32, .inl gm)), (rX, .inl (E.2 2, 32, .inr (.inl Su)))] sz) [(m0, .inr (9, [.int sh, .ref rO, .ref rU, .ref rT, .int rg, .ref rS, .ref rB, .ref rP, .ref rG, .long ab0, .long be0, .int (nI mk), .ref rM, .int (nI (adAll Ti mk).length), .ref rN, .ref rL, .ref rZ, .ref rE, .ref rI, .int 1, .ref rA, .ref rX, .int lnn, .ref rV, .ref rW, .int sl, .ref rC, .ref rF, .ref rQ, .ref rK, .ref rR, .ref rD])), (rL, .inl (E.2 1, 4, .inl La)), (rZ, .inl (E.2 1, 4, .inl (nA Sz))), (rE, .inl (E.2 1, 4, .inl (nA Sp))), (rI, .inl (E.2 1, 800, .inl It)), (rM, .inl (E.2 1, 60, .inl (nA Ti))), (rN, .inl (E.2 1, 120, .inl (nA uu.1))), (rA, .inl (E.2 1, 32, .inl (flF (meanM It kk (Sp kk) uu.1 tt cc) 32 gm))), (rX, .inl (E.2 2, 32, .inr (.inl uu.2)))] t) (va_A [(m0, .inr (9, [.int sh, .ref rO, .ref rU, .ref rT, .int rg, .ref rS, .ref rB, .ref rP, .ref rG, .long ab0, .long be0, .int (nI mk), .ref rM, .int md, .ref rN, .ref rL, .ref rZ, .ref rE, .ref rI, .int hc, .ref rA, .ref rX, .int lnn, .ref rV, .ref rW, .int sl, .ref rC, .ref rF, .ref rQ, .ref rK, .ref rR, .ref rD])), (rL, .inl (E.2 1, 4, .inl La)), (rZ, .inl (E.2 1, 4, .inl (nA Sz))), (rE, .inl (E.2 1, 4, .inl (nA Sp))), (rI, .inl (E.2 1, 800, .inl It)), (rM, .inl (E.2 1, 60, .inl (nA Ti))), (rN, .inl (E.2 1, 120, .inl (nA Tn))), (rA, .inl (E.2 1, 32, .inl gm)), (rX, .inl (E.2 2, 32, .inr (.inl Su)))] sz)) 0 0 (va_A [(m0, .inr (9, [.int sh, .ref rO, .ref rU, .ref rT, .int rg, .ref rS, .ref rB, .ref rP, .ref rG, .long ab0, .long be0, .int (nI mk), .ref rM, .int md, .ref rN, .ref rL, .ref rZ, .ref rE, .ref rI, .int hc, .ref rA, .ref rX, .int lnn, .ref rV, .ref rW, .int sl, .ref rC, .ref rF, .ref rQ, .ref rK, .ref rR, .ref rD])), (rL, .inl (E.2 1, 4, .inl La)), (rZ, .inl (E.2 1, 4, .inl (nA Sz))), (rE, .inl (E.2 1, 4, .inl (nA Sp))), (rI, .inl (E.2 1, 800, .inl It)), (rM, .inl (E.2 1, 60, .inl (nA Ti))), (rN, .inl (E.2 1, 120, .inl (nA Tn))), (rA, .inl (E.2 1, 32, .inl gm)), (rX, .inl (E.2 2, 32, .inr (.inl Su)))] sz) := by
  refine Met.ofW (cc := cX9_cut) (maxL := 10) (ret := (some .int)) (by decide +kernel) rfl ?_
  intro p e s m args below meth c s₁ B hml hv
  obtain ⟨rfl, hsz, hP, hE, hD0⟩ := hv
  have hx := B.exec
  have hb := B.bytes
  have hr := B.returns
  have hts := atoms_spec (ws := wsX9_cut) B.pre
  have hown : s.vm.findClass RX9 = some m.cls := findClass_of_methodNamed B.named
  have hlocks := B.notSynchronized
  have hK := hE.1
  have hNN := hE.2.1
  have hinX9 : ∀ w ∈ wsX90, w ∈ wsX9_cut := fun w h => List.mem_cons_of_mem _ (List.mem_append_right _ h)
  subst hsz
  have hD := hD0.self (sz := s.heap.size)
  generalize hAe : va_A [(m0, .inr (9, [.int sh, .ref rO, .ref rU, .ref rT, .int rg, .ref rS, .ref rB, .ref rP, .ref rG, .long ab0, .long be0, .int (nI mk), .ref rM, .int md, .ref rN, .ref rL, .ref rZ, .ref rE, .ref rI, .int hc, .ref rA, .ref rX, .int lnn, .ref rV, .ref rW, .int sl, .ref rC, .ref rF, .ref rQ, .ref rK, .ref rR, .ref rD])), (rL, .inl (E.2 1, 4, .inl La)), (rZ, .inl (E.2 1, 4, .inl (nA Sz))), (rE, .inl (E.2 1, 4, .inl (nA Sp))), (rI, .inl (E.2 1, 800, .inl It)), (rM, .inl (E.2 1, 60, .inl (nA Ti))), (rN, .inl (E.2 1, 120, .inl (nA Tn))), (rA, .inl (E.2 1, 32, .inl gm)), (rX, .inl (E.2 2, 32, .inr (.inl Su)))] s.heap.size = A at hD ⊢
  have hA : ∀ q : Nat, s.heap.size ≤ q → A q := fun q h => by rw [← hAe]; exact Or.inr h
  have hS : va_S A s.heap s.heap [] := va_S.rf
  have hl := lv_entry ([.ref m0, .int (nI kk), .int (nI tt), .int (nI cc)]) (n := 10) (Nat.le_of_ble_eq_true rfl)
  rw [lg_entry_eq]
  generalize (lg_sl ([.ref m0, .int (nI kk), .int (nI tt), .int (nI cc)]) ++ List.replicate (10 - (lg_sl ([.ref m0, .int (nI kk), .int (nI tt), .int (nI cc)])).length) Slot.unset).toArray = ls at hl ⊢
  have hl : lv_has ls 10 [(0, .ref m0), (1, .int (nI kk)), (2, .int (nI tt)), (3, .int (nI cc))] := hl
  obtain ⟨i1, i2, i3, -, -, -⟩ := adAll_inv (Ti := Ti) mk hti
  refine lv_iload_n hx hb dX9_cut_0 rfl (lv_at hl 1 rfl) ?_
  refine lv_i2l (v := lN kk) hx hb dX9_cut_1 (nI_l (by omega)) ?_
  refine lv_lconst (v := 0) hx hb dX9_cut_2 (by decide) ?_
  refine lv_ldc2 (v := 3) hx hb hown (hts (.constantLong RX9 108 (3)) (by decide +kernel)) dX9_cut_3 ?_
  refine rSi hE ⟨hx, hb, hml, hown, hts⟩ (c_X9_in l E (lN kk) 0 3 ) (va_cwS 3 hts gX9_cut_X9_in rfl rfl rfl (by decide +kernel) ⟨Nat.le_of_ble_eq_true rfl, Nat.le_of_ble_eq_true rfl⟩) (hP.sub [] rfl) rfl hl.1 rfl (Nat.le_of_ble_eq_true rfl) dX9_cut_6 ⟨(Nat.zero_le _), (Nat.zero_le _)⟩ ?_
  rw [show fIn (lN kk) 0 3 = fWi (nI kk) 0 3 from fIn_c (nI_l (by omega)) (by decide) (by decide)]
  refine lv_if_eq (tgt := 28) hx hb dX9_cut_9 (by decide) (fun c_9 => by exfalso; have c_9 := fWi_0 c_9; exact c_9 ⟨nI_pos' (by omega), nI_le (b := 3) (by omega) (by omega)⟩) (fun c_9 => ?_)
  have c_9 := fWi_1 c_9
  refine lv_iload_n hx hb dX9_cut_12 rfl (lv_at hl 2 rfl) ?_
  refine lv_if_lt (tgt := 28) hx hb dX9_cut_13 (by decide) (fun c_13 => by exfalso; have c_13 : tt < 0 := (nI_ltI (a := tt) (b := 0) (by omega) (by omega)).mp c_13; omega) (fun c_13 => ?_)
  have c_13 : ¬ tt < 0 := fun h9 => c_13 ((nI_ltI (a := tt) (b := 0) (by omega) (by omega)).mpr h9)
  refine lv_iload_n hx hb dX9_cut_16 rfl (lv_at hl 3 rfl) ?_
  refine lv_i2l (v := lN cc) hx hb dX9_cut_17 (nI_l (by omega)) ?_
  refine lv_lconst (v := 1) hx hb dX9_cut_18 (by decide) ?_
  refine lv_ldc2 (v := 40) hx hb hown (hts (.constantLong RX9 175 (40)) (by decide +kernel)) dX9_cut_19 ?_
  refine rSi hE ⟨hx, hb, hml, hown, hts⟩ (c_X9_in l E (lN cc) 1 40 ) (va_cwS 3 hts gX9_cut_X9_in rfl rfl rfl (by decide +kernel) ⟨Nat.le_of_ble_eq_true rfl, Nat.le_of_ble_eq_true rfl⟩) (hP.sub [] rfl) rfl hl.1 rfl (Nat.le_of_ble_eq_true rfl) dX9_cut_22 ⟨(Nat.zero_le _), (Nat.zero_le _)⟩ ?_
  rw [show fIn (lN cc) 1 40 = fWi (nI cc) 1 40 from fIn_c (nI_l (by omega)) (by decide) (by decide)]
  refine lv_if_ne (tgt := 30) hx hb dX9_cut_25 (by decide) (fun c_25 => ?_) (fun c_25 => by exfalso; have c_25 := fWi_0 c_25; exact c_25 ⟨nI_le (a := 1) (by omega) (by omega), nI_le (b := 40) (by omega) (by omega)⟩)
  have c_25 := fWi_1 c_25
  refine lv_aload_n hx hb dX9_cut_30 rfl (lv_at hl 0 rfl) ?_
  refine va_get (D := E.1) (ci := 9) (v := .ref rL) (C := RX9) (T := TX9) (N := 32) hx hb hts hinX9 hown hK hP 0 rfl rfl 15 (by decide) (hts (.fieldLink RX9 42 "WornRingsModel" "lanes" "[I") (by decide +kernel)) (fun _ h9 => h9) rfl dX9_cut_31 ?_
  refine lv_iload_n hx hb dX9_cut_34 rfl (lv_at hl 1 rfl) ?_
  refine va_iald hx hb hK hP 1 1 rfl rfl (vp_in_nI (by omega) (by omega)) dX9_cut_35 ?_
  rw [nI_clamp (n := kk) (by omega)]
  refine lv_if_ge (tgt := 42) hx hb dX9_cut_36 (by decide) (fun c_36 => ?_) (fun c_36 => by exfalso; exact hla (Int32.not_le.mp c_36))
  refine lv_aload_n hx hb dX9_cut_42 rfl (lv_at hl 0 rfl) ?_
  refine wVv (wr := [(rL, .inl (E.2 1, 4, .inl La)), (rZ, .inl (E.2 1, 4, .inl (nA Sz))), (rE, .inl (E.2 1, 4, .inl (nA Sp))), (rI, .inl (E.2 1, 800, .inl It)), (rA, .inl (E.2 1, 32, .inl gm)), (rX, .inl (E.2 2, 32, .inr (.inl Su)))]) hE ⟨hx, hb, hml, hown, hts⟩ (c_X9_mend l E s.heap.size m0 sh rO rU rT rg rS rB rP rG ab0 be0 mk rM md rN rL rZ rE rI hc rA rX lnn rV rW sl rC rF rQ rK rR rD Ti Tn (hmk) (hti) (htb)) (cwV 0 hts gX9_cut_X9_mend rfl rfl rfl (by decide +kernel) ⟨Nat.le_of_ble_eq_true rfl, Nat.le_of_ble_eq_true rfl⟩) hP hD hS hA [0, 5, 6] [1, 2, 3, 4, 7, 8] rfl rfl (by decide) (by decide) (by decide) 0 9 rfl rfl rfl hl.1 rfl (Nat.le_of_ble_eq_true rfl) dX9_cut_43 ⟨(Nat.zero_le _), (Nat.zero_le _)⟩ (fun u H locs hw hP hD hS => ?_)
  obtain ⟨T2_43, rfl⟩ : ∃ z, z = u := ⟨_, rfl⟩
  have hP : va_P E.1 vwCl [(rL, .inl (E.2 1, 4, .inl La)), (rZ, .inl (E.2 1, 4, .inl (nA Sz))), (rE, .inl (E.2 1, 4, .inl (nA Sp))), (rI, .inl (E.2 1, 800, .inl It)), (rA, .inl (E.2 1, 32, .inl gm)), (rX, .inl (E.2 2, 32, .inr (.inl Su))), (m0, .inr (9, [.int sh, .ref rO, .ref rU, .ref rT, .int rg, .ref rS, .ref rB, .ref rP, .ref rG, .long ab0, .long be0, .int (nI mk), .ref rM, .int (nI (adAll Ti mk).length), .ref rN, .ref rL, .ref rZ, .ref rE, .ref rI, .int hc, .ref rA, .ref rX, .int lnn, .ref rV, .ref rW, .int sl, .ref rC, .ref rF, .ref rQ, .ref rK, .ref rR, .ref rD])), (rM, .inl (E.2 1, 60, .inl (nA Ti))), (rN, .inl (E.2 1, 120, .inl (nA T2_43)))] H := hP
  have hD : va_D A [(rL, .inl (E.2 1, 4, .inl La)), (rZ, .inl (E.2 1, 4, .inl (nA Sz))), (rE, .inl (E.2 1, 4, .inl (nA Sp))), (rI, .inl (E.2 1, 800, .inl It)), (rA, .inl (E.2 1, 32, .inl gm)), (rX, .inl (E.2 2, 32, .inr (.inl Su))), (m0, .inr (9, [.int sh, .ref rO, .ref rU, .ref rT, .int rg, .ref rS, .ref rB, .ref rP, .ref rG, .long ab0, .long be0, .int (nI mk), .ref rM, .int (nI (adAll Ti mk).length), .ref rN, .ref rL, .ref rZ, .ref rE, .ref rI, .int hc, .ref rA, .ref rX, .int lnn, .ref rV, .ref rW, .int sl, .ref rC, .ref rF, .ref rQ, .ref rK, .ref rR, .ref rD])), (rM, .inl (E.2 1, 60, .inl (nA Ti))), (rN, .inl (E.2 1, 120, .inl (nA T2_43)))] := hD
  have hm_43 := hw
  have hic : ∀ j, j + 1 < (adAll Ti mk).length → T2_43 j < T2_43 (j + 1) := fun j hj => by rw [hm_43 j (by omega), hm_43 (j + 1) hj]; exact SPw_lt i1 (by omega) hj
  have hbd : ∀ j, j < (adAll Ti mk).length → T2_43 j ≤ 1000000 := fun j hj => by
    rw [hm_43 j hj]
    rcases Nat.eq_zero_or_pos mk with e | e
    · subst e; exact absurd hj (Nat.not_lt_zero j)
    · exact Nat.le_trans (i3 e _ (getD_mem hj)) (htb _ (by omega))
  have htmc : ∀ b j, b + 1 < (adAll Ti mk).length → tmF T2_43 b j = tmF (fun i => (adAll Ti mk).getD i 0) b j := fun b j hb => by unfold tmF; rw [hm_43 b (by omega), hm_43 (b + 1) hb]
  refine lv_iload_n hx hb dX9_cut_46 rfl (lv_at hl 2 rfl) ?_
  refine lv_aload_n hx hb dX9_cut_47 rfl (lv_at hl 0 rfl) ?_
  refine va_get (D := E.1) (ci := 9) (v := .int (nI (adAll Ti mk).length)) (C := RX9) (T := TX9) (N := 32) hx hb hts hinX9 hown hK hP 6 rfl rfl 13 (by decide) (hts (.fieldLink RX9 151 "WornRingsModel" "mended" "I") (by decide +kernel)) (fun _ h9 => h9) rfl dX9_cut_48 ?_
  refine lv_iconst (v := 1) hx hb dX9_cut_51 (by decide) ?_
  refine lv_isub hx hb dX9_cut_52 ?_
  refine lv_iload_n hx hb dX9_cut_53 rfl (lv_at hl 3 rfl) ?_
  refine lv_isub hx hb dX9_cut_54 ?_
  refine lv_icmp_le (tgt := 61) hx hb dX9_cut_55 (by decide) (fun c_55 => ?_) (fun c_55 => by exfalso; rw [Int32.le_iff_toInt_le, ht_sub i2 (by omega), nI_toInt (by omega)] at c_55; omega)
  have c_55 : tt + cc + 1 ≤ (adAll Ti mk).length := by
    rw [Int32.le_iff_toInt_le, ht_sub i2 (by omega), nI_toInt (by omega)] at c_55
    omega
  refine lv_iconst (v := 0) hx hb dX9_cut_61 (by decide) ?_
  refine lv_istore (lv' := [(4, .int 0), (0, .ref m0), (1, .int (nI kk)), (2, .int (nI tt)), (3, .int (nI cc))]) hx hb dX9_cut_62 hl (by decide) rfl (fun ls hl => ?_)
  refine (fun (lp64 : ∀ (n9 : Nat) (j : Nat) (SS : Nat → Int64) (H : Heap) (locs : List Loc) (ls : Array Slot), (32 - j) < n9 → (j ≤ 32) → (∀ b, b < j → SS b = 0) → va_P E.1 vwCl [(m0, .inr (9, [.int sh, .ref rO, .ref rU, .ref rT, .int rg, .ref rS, .ref rB, .ref rP, .ref rG, .long ab0, .long be0, .int (nI mk), .ref rM, .int (nI (adAll Ti mk).length), .ref rN, .ref rL, .ref rZ, .ref rE, .ref rI, .int hc, .ref rA, .ref rX, .int lnn, .ref rV, .ref rW, .int sl, .ref rC, .ref rF, .ref rQ, .ref rK, .ref rR, .ref rD])), (rL, .inl (E.2 1, 4, .inl La)), (rZ, .inl (E.2 1, 4, .inl (nA Sz))), (rE, .inl (E.2 1, 4, .inl (nA Sp))), (rI, .inl (E.2 1, 800, .inl It)), (rM, .inl (E.2 1, 60, .inl (nA Ti))), (rN, .inl (E.2 1, 120, .inl (nA T2_43))), (rA, .inl (E.2 1, 32, .inl gm)), (rX, .inl (E.2 2, 32, .inr (.inl SS)))] H → va_D A [(m0, .inr (9, [.int sh, .ref rO, .ref rU, .ref rT, .int rg, .ref rS, .ref rB, .ref rP, .ref rG, .long ab0, .long be0, .int (nI mk), .ref rM, .int (nI (adAll Ti mk).length), .ref rN, .ref rL, .ref rZ, .ref rE, .ref rI, .int hc, .ref rA, .ref rX, .int lnn, .ref rV, .ref rW, .int sl, .ref rC, .ref rF, .ref rQ, .ref rK, .ref rR, .ref rD])), (rL, .inl (E.2 1, 4, .inl La)), (rZ, .inl (E.2 1, 4, .inl (nA Sz))), (rE, .inl (E.2 1, 4, .inl (nA Sp))), (rI, .inl (E.2 1, 800, .inl It)), (rM, .inl (E.2 1, 60, .inl (nA Ti))), (rN, .inl (E.2 1, 120, .inl (nA T2_43))), (rA, .inl (E.2 1, 32, .inl gm)), (rX, .inl (E.2 2, 32, .inr (.inl SS)))] → va_S A s.heap H locs → lv_has ls 10 [(0, .ref m0), (1, .int (nI kk)), (2, .int (nI tt)), (3, .int (nI cc)), (4, .int (nI j))] → W p l e _ s m _ below meth c H locs _ _ _ (F0 m 64 ls [])) => lp64 (33) 0 Su _ _ _ (by omega) (by omega) (fun b h9 => absurd h9 (Nat.not_lt_zero b)) (hP.sub [6, 0, 1, 2, 3, 7, 8, 4, 5] rfl) (hD.sub [6, 0, 1, 2, 3, 7, 8, 4, 5] (by decide) rfl) hS (lv_sub hl [1, 2, 3, 4, 0] rfl)) ?_
  intro n64
  induction n64 with
  | zero => intro j SS H locs ls h0; exact absurd (by assumption) (Nat.not_lt_zero _)
  | succ n64 ih64 =>
    intro j SS H locs ls hmu64 hj hz hP hD hS hl
    refine lv_iload hx hb dX9_cut_64 (lv_at hl 4 rfl) ?_
    refine lv_bipush (v := 32) hx hb dX9_cut_66 (by decide) ?_
    refine lv_icmp_ge (tgt := 85) hx hb dX9_cut_68 (by decide) (fun c_68 => ?_) (fun c_68 => ?_)
    · have c_68 : 32 ≤ j := (nI_leI (a := 32) (b := j) (by omega) (by omega)).mp c_68
      refine lv_iload_n hx hb dX9_cut_85 rfl (lv_at hl 2 rfl) ?_
      refine lv_istore (lv' := [(4, .int (nI tt)), (0, .ref m0), (1, .int (nI kk)), (2, .int (nI tt)), (3, .int (nI cc))]) hx hb dX9_cut_86 hl (by decide) rfl (fun ls hl => ?_)
      refine (fun (lp88 : ∀ (n9 : Nat) (k : Nat) (SS : Nat → Int64) (H : Heap) (locs : List Loc) (ls : Array Slot), (tt + cc - k) < n9 → (tt ≤ k) → (k ≤ tt + cc) → (∀ b, b < 32 → SS b = smM It kk (Sp kk) T2_43 tt b (k - tt)) → va_P E.1 vwCl [(m0, .inr (9, [.int sh, .ref rO, .ref rU, .ref rT, .int rg, .ref rS, .ref rB, .ref rP, .ref rG, .long ab0, .long be0, .int (nI mk), .ref rM, .int (nI (adAll Ti mk).length), .ref rN, .ref rL, .ref rZ, .ref rE, .ref rI, .int hc, .ref rA, .ref rX, .int lnn, .ref rV, .ref rW, .int sl, .ref rC, .ref rF, .ref rQ, .ref rK, .ref rR, .ref rD])), (rL, .inl (E.2 1, 4, .inl La)), (rZ, .inl (E.2 1, 4, .inl (nA Sz))), (rE, .inl (E.2 1, 4, .inl (nA Sp))), (rI, .inl (E.2 1, 800, .inl It)), (rM, .inl (E.2 1, 60, .inl (nA Ti))), (rN, .inl (E.2 1, 120, .inl (nA T2_43))), (rA, .inl (E.2 1, 32, .inl gm)), (rX, .inl (E.2 2, 32, .inr (.inl SS)))] H → va_D A [(m0, .inr (9, [.int sh, .ref rO, .ref rU, .ref rT, .int rg, .ref rS, .ref rB, .ref rP, .ref rG, .long ab0, .long be0, .int (nI mk), .ref rM, .int (nI (adAll Ti mk).length), .ref rN, .ref rL, .ref rZ, .ref rE, .ref rI, .int hc, .ref rA, .ref rX, .int lnn, .ref rV, .ref rW, .int sl, .ref rC, .ref rF, .ref rQ, .ref rK, .ref rR, .ref rD])), (rL, .inl (E.2 1, 4, .inl La)), (rZ, .inl (E.2 1, 4, .inl (nA Sz))), (rE, .inl (E.2 1, 4, .inl (nA Sp))), (rI, .inl (E.2 1, 800, .inl It)), (rM, .inl (E.2 1, 60, .inl (nA Ti))), (rN, .inl (E.2 1, 120, .inl (nA T2_43))), (rA, .inl (E.2 1, 32, .inl gm)), (rX, .inl (E.2 2, 32, .inr (.inl SS)))] → va_S A s.heap H locs → lv_has ls 10 [(0, .ref m0), (1, .int (nI kk)), (2, .int (nI tt)), (3, .int (nI cc)), (4, .int (nI k))] → W p l e _ s m _ below meth c H locs _ _ _ (F0 m 88 ls [])) => lp88 (tt + cc + 1) tt SS _ _ _ (by omega) (by omega) (by omega) (fun b h9 => by rw [Nat.sub_self, hz b (by omega)]; rfl) (hP.sub [0, 1, 2, 3, 4, 5, 6, 7, 8] rfl) (hD.sub [0, 1, 2, 3, 4, 5, 6, 7, 8] (by decide) rfl) hS (lv_sub hl [1, 2, 3, 4, 0] rfl)) ?_
      intro n88
      induction n88 with
      | zero => intro k SS H locs ls h0; exact absurd (by assumption) (Nat.not_lt_zero _)
      | succ n88 ih88 =>
        intro k SS H locs ls hmu88 hk1 hk2 hsm hP hD hS hl
        refine lv_iload hx hb dX9_cut_88 (lv_at hl 4 rfl) ?_
        refine lv_iload_n hx hb dX9_cut_90 rfl (lv_at hl 2 rfl) ?_
        refine lv_iload_n hx hb dX9_cut_91 rfl (lv_at hl 3 rfl) ?_
        refine lv_iadd hx hb dX9_cut_92 ?_
        rw [show ((nI tt) + (nI cc) : Int32) = nI (tt + cc) from nI_add tt cc]
        refine lv_icmp_ge (tgt := 198) hx hb dX9_cut_93 (by decide) (fun c_93 => ?_) (fun c_93 => ?_)
        · have c_93 : (tt + cc) ≤ k := (nI_leI (a := tt + cc) (b := k) (by omega) (by omega)).mp c_93
          refine lv_iconst (v := 0) hx hb dX9_cut_198 (by decide) ?_
          refine lv_istore (lv' := [(4, .int 0), (0, .ref m0), (1, .int (nI kk)), (2, .int (nI tt)), (3, .int (nI cc))]) hx hb dX9_cut_199 hl (by decide) rfl (fun ls hl => ?_)
          refine (fun (lp201 : ∀ (n9 : Nat) (j : Nat) (H : Heap) (locs : List Loc) (ls : Array Slot), (32 - j) < n9 → (j ≤ 32) → va_P E.1 vwCl [(m0, .inr (9, [.int sh, .ref rO, .ref rU, .ref rT, .int rg, .ref rS, .ref rB, .ref rP, .ref rG, .long ab0, .long be0, .int (nI mk), .ref rM, .int (nI (adAll Ti mk).length), .ref rN, .ref rL, .ref rZ, .ref rE, .ref rI, .int hc, .ref rA, .ref rX, .int lnn, .ref rV, .ref rW, .int sl, .ref rC, .ref rF, .ref rQ, .ref rK, .ref rR, .ref rD])), (rL, .inl (E.2 1, 4, .inl La)), (rZ, .inl (E.2 1, 4, .inl (nA Sz))), (rE, .inl (E.2 1, 4, .inl (nA Sp))), (rI, .inl (E.2 1, 800, .inl It)), (rM, .inl (E.2 1, 60, .inl (nA Ti))), (rN, .inl (E.2 1, 120, .inl (nA T2_43))), (rA, .inl (E.2 1, 32, .inl (flF (meanM It kk (Sp kk) T2_43 tt cc) j gm))), (rX, .inl (E.2 2, 32, .inr (.inl SS)))] H → va_D A [(m0, .inr (9, [.int sh, .ref rO, .ref rU, .ref rT, .int rg, .ref rS, .ref rB, .ref rP, .ref rG, .long ab0, .long be0, .int (nI mk), .ref rM, .int (nI (adAll Ti mk).length), .ref rN, .ref rL, .ref rZ, .ref rE, .ref rI, .int hc, .ref rA, .ref rX, .int lnn, .ref rV, .ref rW, .int sl, .ref rC, .ref rF, .ref rQ, .ref rK, .ref rR, .ref rD])), (rL, .inl (E.2 1, 4, .inl La)), (rZ, .inl (E.2 1, 4, .inl (nA Sz))), (rE, .inl (E.2 1, 4, .inl (nA Sp))), (rI, .inl (E.2 1, 800, .inl It)), (rM, .inl (E.2 1, 60, .inl (nA Ti))), (rN, .inl (E.2 1, 120, .inl (nA T2_43))), (rA, .inl (E.2 1, 32, .inl (flF (meanM It kk (Sp kk) T2_43 tt cc) j gm))), (rX, .inl (E.2 2, 32, .inr (.inl SS)))] → va_S A s.heap H locs → lv_has ls 10 [(0, .ref m0), (1, .int (nI kk)), (2, .int (nI tt)), (3, .int (nI cc)), (4, .int (nI j))] → W p l e _ s m _ below meth c H locs _ _ _ (F0 m 201 ls [])) => lp201 (33) 0 _ _ _ (by omega) (by omega) (by rw [flF_0]; exact hP.sub [0, 1, 2, 3, 4, 5, 6, 7, 8] rfl) (by rw [flF_0]; exact hD.sub [0, 1, 2, 3, 4, 5, 6, 7, 8] (by decide) rfl) hS (lv_sub hl [1, 2, 3, 4, 0] rfl)) ?_
          intro n201
          induction n201 with
          | zero => intro j H locs ls h0; exact absurd (by assumption) (Nat.not_lt_zero _)
          | succ n201 ih201 =>
            intro j H locs ls hmu201 hj hP hD hS hl
            refine lv_iload hx hb dX9_cut_201 (lv_at hl 4 rfl) ?_
            refine lv_bipush (v := 32) hx hb dX9_cut_203 (by decide) ?_
            refine lv_icmp_ge (tgt := 234) hx hb dX9_cut_205 (by decide) (fun c_205 => ?_) (fun c_205 => ?_)
            · have c_205 : 32 ≤ j := (nI_leI (a := 32) (b := j) (by omega) (by omega)).mp c_205
              refine lv_aload_n hx hb dX9_cut_234 rfl (lv_at hl 0 rfl) ?_
              refine lv_iconst (v := 1) hx hb dX9_cut_235 (by decide) ?_
              refine va_put (D := E.1) (ci := 9) (v := .int 1) (ty := .boolean) (C := RX9) (T := TX9) (N := 32) hx hb hts hinX9 tyX9 tyX9_ok nmX9 hown hK hP hD hS 0 rfl rfl 19 (by decide) (hts (.fieldLink RX9 183 "WornRingsModel" "hasCut" "Z") (by decide +kernel)) (fun _ h9 => h9) rfl (by decide +kernel) (rfl) (rfl) (Nat.le_of_ble_eq_true rfl) dX9_cut_236 (fun H locs hP hD hS => ?_)
              have hP : va_P E.1 vwCl [(m0, .inr (9, [.int sh, .ref rO, .ref rU, .ref rT, .int rg, .ref rS, .ref rB, .ref rP, .ref rG, .long ab0, .long be0, .int (nI mk), .ref rM, .int (nI (adAll Ti mk).length), .ref rN, .ref rL, .ref rZ, .ref rE, .ref rI, .int 1, .ref rA, .ref rX, .int lnn, .ref rV, .ref rW, .int sl, .ref rC, .ref rF, .ref rQ, .ref rK, .ref rR, .ref rD])), (rL, .inl (E.2 1, 4, .inl La)), (rZ, .inl (E.2 1, 4, .inl (nA Sz))), (rE, .inl (E.2 1, 4, .inl (nA Sp))), (rI, .inl (E.2 1, 800, .inl It)), (rM, .inl (E.2 1, 60, .inl (nA Ti))), (rN, .inl (E.2 1, 120, .inl (nA T2_43))), (rA, .inl (E.2 1, 32, .inl (flF (meanM It kk (Sp kk) T2_43 tt cc) j gm))), (rX, .inl (E.2 2, 32, .inr (.inl SS)))] H := hP
              have hD : va_D A [(m0, .inr (9, [.int sh, .ref rO, .ref rU, .ref rT, .int rg, .ref rS, .ref rB, .ref rP, .ref rG, .long ab0, .long be0, .int (nI mk), .ref rM, .int (nI (adAll Ti mk).length), .ref rN, .ref rL, .ref rZ, .ref rE, .ref rI, .int 1, .ref rA, .ref rX, .int lnn, .ref rV, .ref rW, .int sl, .ref rC, .ref rF, .ref rQ, .ref rK, .ref rR, .ref rD])), (rL, .inl (E.2 1, 4, .inl La)), (rZ, .inl (E.2 1, 4, .inl (nA Sz))), (rE, .inl (E.2 1, 4, .inl (nA Sp))), (rI, .inl (E.2 1, 800, .inl It)), (rM, .inl (E.2 1, 60, .inl (nA Ti))), (rN, .inl (E.2 1, 120, .inl (nA T2_43))), (rA, .inl (E.2 1, 32, .inl (flF (meanM It kk (Sp kk) T2_43 tt cc) j gm))), (rX, .inl (E.2 2, 32, .inr (.inl SS)))] := hD
              refine lv_iload_n hx hb dX9_cut_239 rfl (lv_at hl 3 rfl) ?_
              have e9 : ([(m0, .inr (9, [.int sh, .ref rO, .ref rU, .ref rT, .int rg, .ref rS, .ref rB, .ref rP, .ref rG, .long ab0, .long be0, .int (nI mk), .ref rM, .int (nI (adAll Ti mk).length), .ref rN, .ref rL, .ref rZ, .ref rE, .ref rI, .int 1, .ref rA, .ref rX, .int lnn, .ref rV, .ref rW, .int sl, .ref rC, .ref rF, .ref rQ, .ref rK, .ref rR, .ref rD])), (rL, .inl (E.2 1, 4, .inl La)), (rZ, .inl (E.2 1, 4, .inl (nA Sz))), (rE, .inl (E.2 1, 4, .inl (nA Sp))), (rI, .inl (E.2 1, 800, .inl It)), (rM, .inl (E.2 1, 60, .inl (nA Ti))), (rN, .inl (E.2 1, 120, .inl (nA T2_43))), (rA, .inl (E.2 1, 32, .inl (flF (meanM It kk (Sp kk) T2_43 tt cc) 32 gm))), (rX, .inl (E.2 2, 32, .inr (.inl SS)))] : va_W) = [(m0, .inr (9, [.int sh, .ref rO, .ref rU, .ref rT, .int rg, .ref rS, .ref rB, .ref rP, .ref rG, .long ab0, .long be0, .int (nI mk), .ref rM, .int (nI (adAll Ti mk).length), .ref rN, .ref rL, .ref rZ, .ref rE, .ref rI, .int 1, .ref rA, .ref rX, .int lnn, .ref rV, .ref rW, .int sl, .ref rC, .ref rF, .ref rQ, .ref rK, .ref rR, .ref rD])), (rL, .inl (E.2 1, 4, .inl La)), (rZ, .inl (E.2 1, 4, .inl (nA Sz))), (rE, .inl (E.2 1, 4, .inl (nA Sp))), (rI, .inl (E.2 1, 800, .inl It)), (rM, .inl (E.2 1, 60, .inl (nA Ti))), (rN, .inl (E.2 1, 120, .inl (nA T2_43))), (rA, .inl (E.2 1, 32, .inl (flF (meanM It kk (Sp kk) T2_43 tt cc) j gm))), (rX, .inl (E.2 2, 32, .inr (.inl SS)))] := by rw [show j = 32 by omega]
              have hP9 : va_P E.1 vwCl [(m0, .inr (9, [.int sh, .ref rO, .ref rU, .ref rT, .int rg, .ref rS, .ref rB, .ref rP, .ref rG, .long ab0, .long be0, .int (nI mk), .ref rM, .int (nI (adAll Ti mk).length), .ref rN, .ref rL, .ref rZ, .ref rE, .ref rI, .int 1, .ref rA, .ref rX, .int lnn, .ref rV, .ref rW, .int sl, .ref rC, .ref rF, .ref rQ, .ref rK, .ref rR, .ref rD])), (rL, .inl (E.2 1, 4, .inl La)), (rZ, .inl (E.2 1, 4, .inl (nA Sz))), (rE, .inl (E.2 1, 4, .inl (nA Sp))), (rI, .inl (E.2 1, 800, .inl It)), (rM, .inl (E.2 1, 60, .inl (nA Ti))), (rN, .inl (E.2 1, 120, .inl (nA T2_43))), (rA, .inl (E.2 1, 32, .inl (flF (meanM It kk (Sp kk) T2_43 tt cc) 32 gm))), (rX, .inl (E.2 2, 32, .inr (.inl SS)))] H := by rw [e9]; exact hP.sub [0, 1, 2, 3, 4, 5, 6, 7, 8] rfl
              have hD9 : va_D A [(m0, .inr (9, [.int sh, .ref rO, .ref rU, .ref rT, .int rg, .ref rS, .ref rB, .ref rP, .ref rG, .long ab0, .long be0, .int (nI mk), .ref rM, .int (nI (adAll Ti mk).length), .ref rN, .ref rL, .ref rZ, .ref rE, .ref rI, .int 1, .ref rA, .ref rX, .int lnn, .ref rV, .ref rW, .int sl, .ref rC, .ref rF, .ref rQ, .ref rK, .ref rR, .ref rD])), (rL, .inl (E.2 1, 4, .inl La)), (rZ, .inl (E.2 1, 4, .inl (nA Sz))), (rE, .inl (E.2 1, 4, .inl (nA Sp))), (rI, .inl (E.2 1, 800, .inl It)), (rM, .inl (E.2 1, 60, .inl (nA Ti))), (rN, .inl (E.2 1, 120, .inl (nA T2_43))), (rA, .inl (E.2 1, 32, .inl (flF (meanM It kk (Sp kk) T2_43 tt cc) 32 gm))), (rX, .inl (E.2 2, 32, .inr (.inl SS)))] := by rw [e9]; exact hD.sub [0, 1, 2, 3, 4, 5, 6, 7, 8] (by decide) rfl
              exact W.iret (v := nI cc) hx hb hr (fun t9 ht9 hW9 => ⟨⟨nI cc, (T2_43, SS), rfl, ⟨rfl, hm_43⟩, ⟨by rw [ht9]; exact hP9, hD9⟩⟩, hS.F ht9⟩) hS.2.2 dX9_cut_240
            · have c_205 : ¬ 32 ≤ j := fun h9 => c_205 ((nI_leI (a := 32) (b := j) (by omega) (by omega)).mpr h9)
              refine lv_aload_n hx hb dX9_cut_208 rfl (lv_at hl 0 rfl) ?_
              refine va_get (D := E.1) (ci := 9) (v := .ref rA) (C := RX9) (T := TX9) (N := 32) hx hb hts hinX9 hown hK hP 0 rfl rfl 20 (by decide) (hts (.fieldLink RX9 54 "WornRingsModel" "mean" "[I") (by decide +kernel)) (fun _ h9 => h9) rfl dX9_cut_209 ?_
              refine lv_iload hx hb dX9_cut_212 (lv_at hl 4 rfl) ?_
              refine lv_aload_n hx hb dX9_cut_214 rfl (lv_at hl 0 rfl) ?_
              refine va_get (D := E.1) (ci := 9) (v := .ref rX) (C := RX9) (T := TX9) (N := 32) hx hb hts hinX9 hown hK hP 0 rfl rfl 21 (by decide) (hts (.fieldLink RX9 57 "WornRingsModel" "sums" "[J") (by decide +kernel)) (fun _ h9 => h9) rfl dX9_cut_215 ?_
              refine lv_iload hx hb dX9_cut_218 (lv_at hl 4 rfl) ?_
              refine va_lald hx hb hK hP 8 2 rfl rfl (vp_in_nI (by omega) (by omega)) dX9_cut_220 ?_
              rw [nI_clamp (n := j) (by omega)]
              refine lv_iload_n hx hb dX9_cut_221 rfl (lv_at hl 3 rfl) ?_
              refine lv_i2l (v := lN cc) hx hb dX9_cut_222 (nI_l (by omega)) ?_
              refine rSl hE ⟨hx, hb, hml, hown, hts⟩ (c_X9_down l E (SS j) (lN cc) (lN_ne (by omega) (by omega))) (va_cwS 2 hts gX9_cut_X9_down rfl rfl rfl (by decide +kernel) ⟨Nat.le_of_ble_eq_true rfl, Nat.le_of_ble_eq_true rfl⟩) (hP.sub [] rfl) rfl hl.1 rfl (Nat.le_of_ble_eq_true rfl) dX9_cut_223 ⟨(Nat.zero_le _), (Nat.zero_le _)⟩ ?_
              refine lv_l2i (v := (fDn (SS j) (lN cc)).toInt32) hx hb dX9_cut_226 (rfl) ?_
              refine va_iast hx hb hK hP hD hS 7 1 rfl rfl (vp_in_nI (by omega) (by omega)) dX9_cut_227 (fun H locs hP hD hS => ?_)
              rw [nI_clamp (n := j) (by omega)] at hP hD
              have hP : va_P E.1 vwCl [(m0, .inr (9, [.int sh, .ref rO, .ref rU, .ref rT, .int rg, .ref rS, .ref rB, .ref rP, .ref rG, .long ab0, .long be0, .int (nI mk), .ref rM, .int (nI (adAll Ti mk).length), .ref rN, .ref rL, .ref rZ, .ref rE, .ref rI, .int hc, .ref rA, .ref rX, .int lnn, .ref rV, .ref rW, .int sl, .ref rC, .ref rF, .ref rQ, .ref rK, .ref rR, .ref rD])), (rL, .inl (E.2 1, 4, .inl La)), (rZ, .inl (E.2 1, 4, .inl (nA Sz))), (rE, .inl (E.2 1, 4, .inl (nA Sp))), (rI, .inl (E.2 1, 800, .inl It)), (rM, .inl (E.2 1, 60, .inl (nA Ti))), (rN, .inl (E.2 1, 120, .inl (nA T2_43))), (rA, .inl (E.2 1, 32, .inl (upd (flF (meanM It kk (Sp kk) T2_43 tt cc) j gm) j ((fDn (SS j) (lN cc)).toInt32)))), (rX, .inl (E.2 2, 32, .inr (.inl SS)))] H := hP
              have hD : va_D A [(m0, .inr (9, [.int sh, .ref rO, .ref rU, .ref rT, .int rg, .ref rS, .ref rB, .ref rP, .ref rG, .long ab0, .long be0, .int (nI mk), .ref rM, .int (nI (adAll Ti mk).length), .ref rN, .ref rL, .ref rZ, .ref rE, .ref rI, .int hc, .ref rA, .ref rX, .int lnn, .ref rV, .ref rW, .int sl, .ref rC, .ref rF, .ref rQ, .ref rK, .ref rR, .ref rD])), (rL, .inl (E.2 1, 4, .inl La)), (rZ, .inl (E.2 1, 4, .inl (nA Sz))), (rE, .inl (E.2 1, 4, .inl (nA Sp))), (rI, .inl (E.2 1, 800, .inl It)), (rM, .inl (E.2 1, 60, .inl (nA Ti))), (rN, .inl (E.2 1, 120, .inl (nA T2_43))), (rA, .inl (E.2 1, 32, .inl (upd (flF (meanM It kk (Sp kk) T2_43 tt cc) j gm) j ((fDn (SS j) (lN cc)).toInt32)))), (rX, .inl (E.2 2, 32, .inr (.inl SS)))] := hD
              refine lv_iinc (v := nI (j + 1)) (lv' := [(4, .int (nI (j + 1))), (0, .ref m0), (1, .int (nI kk)), (2, .int (nI tt)), (3, .int (nI cc))]) hx hb dX9_cut_228 hl (k := 4) rfl (nI_add j 1) (by decide) rfl (fun ls hl => ?_)
              refine lv_goto (tgt := 201) hx hb dX9_cut_231 (by decide) ?_
              exact ih201 (j + 1) _ _ _ (by omega) (by omega) (by rw [← flF_s, show meanM It kk (Sp kk) T2_43 tt cc j = (fDn (SS j) (lN cc)).toInt32 by rw [meanM, hsm j (by omega), show k - tt = cc by omega]]; exact hP.sub [0, 1, 2, 3, 4, 5, 6, 7, 8] rfl) (by rw [← flF_s, show meanM It kk (Sp kk) T2_43 tt cc j = (fDn (SS j) (lN cc)).toInt32 by rw [meanM, hsm j (by omega), show k - tt = cc by omega]]; exact hD.sub [0, 1, 2, 3, 4, 5, 6, 7, 8] (by decide) rfl) hS (lv_sub hl [1, 2, 3, 4, 0] rfl)
        · have c_93 : ¬ (tt + cc) ≤ k := fun h9 => c_93 ((nI_leI (a := tt + cc) (b := k) (by omega) (by omega)).mpr h9)
          have h93 := hic k (by omega)
          have h94 := hbd (k + 1) (by omega)
          have h95 := hbd k (by omega)
          refine lv_aload_n hx hb dX9_cut_96 rfl (lv_at hl 0 rfl) ?_
          refine va_get (D := E.1) (ci := 9) (v := .ref rN) (C := RX9) (T := TX9) (N := 32) hx hb hts hinX9 hown hK hP 0 rfl rfl 14 (by decide) (hts (.fieldLink RX9 39 "WornRingsModel" "turns" "[I") (by decide +kernel)) (fun _ h9 => h9) rfl dX9_cut_97 ?_
          refine lv_iload hx hb dX9_cut_100 (lv_at hl 4 rfl) ?_
          refine va_iald hx hb hK hP 6 1 rfl rfl (vp_in_nI (by omega) (by omega)) dX9_cut_102 ?_
          rw [nI_clamp (n := k) (by omega)]
          refine W.eq (g2 := F0 m 103 ls [.int (nI (T2_43 k))]) rfl ?_
          refine lv_istore (lv' := [(5, .int (nI (T2_43 k))), (0, .ref m0), (1, .int (nI kk)), (2, .int (nI tt)), (3, .int (nI cc)), (4, .int (nI k))]) hx hb dX9_cut_103 hl (by decide) rfl (fun ls hl => ?_)
          refine lv_aload_n hx hb dX9_cut_105 rfl (lv_at hl 1 rfl) ?_
          refine va_get (D := E.1) (ci := 9) (v := .ref rN) (C := RX9) (T := TX9) (N := 32) hx hb hts hinX9 hown hK hP 0 rfl rfl 14 (by decide) (hts (.fieldLink RX9 39 "WornRingsModel" "turns" "[I") (by decide +kernel)) (fun _ h9 => h9) rfl dX9_cut_106 ?_
          refine lv_iload hx hb dX9_cut_109 (lv_at hl 5 rfl) ?_
          refine lv_iconst (v := 1) hx hb dX9_cut_111 (by decide) ?_
          refine lv_iadd hx hb dX9_cut_112 ?_
          rw [show ((nI k) + (1 : Int32) : Int32) = nI (k + 1) from nI_add k 1]
          refine va_iald hx hb hK hP 6 1 rfl rfl (vp_in_nI (by omega) (by omega)) dX9_cut_113 ?_
          rw [nI_clamp (n := k + 1) (by omega)]
          refine W.eq (g2 := F0 m 114 ls [.int (nI (T2_43 (k + 1)))]) rfl ?_
          refine lv_iload hx hb dX9_cut_114 (lv_at hl 0 rfl) ?_
          refine lv_isub hx hb dX9_cut_116 ?_
          rw [show ((nI (T2_43 (k + 1))) - (nI (T2_43 k)) : Int32) = nI ((T2_43 (k + 1)) - (T2_43 k)) from pk_sub (a := (T2_43 (k + 1))) (b := (T2_43 k)) (by omega)]
          refine lv_i2l (v := lN ((T2_43 (k + 1)) - (T2_43 k))) hx hb dX9_cut_117 (nI_l (by omega)) ?_
          refine lv_lstore (lv' := [(6, .long (lN ((T2_43 (k + 1)) - (T2_43 k)))), (5, .int (nI (T2_43 k))), (0, .ref m0), (1, .int (nI kk)), (2, .int (nI tt)), (3, .int (nI cc)), (4, .int (nI k))]) hx hb dX9_cut_118 hl (by decide) rfl (fun ls hl => ?_)
          refine lv_iconst (v := 0) hx hb dX9_cut_120 (by decide) ?_
          refine lv_istore (lv' := [(8, .int 0), (6, .long (lN ((T2_43 (k + 1)) - (T2_43 k)))), (5, .int (nI (T2_43 k))), (0, .ref m0), (1, .int (nI kk)), (2, .int (nI tt)), (3, .int (nI cc)), (4, .int (nI k))]) hx hb dX9_cut_121 hl (by decide) rfl (fun ls hl => ?_)
          refine (fun (lp123 : ∀ (n9 : Nat) (j : Nat) (SS : Nat → Int64) (H : Heap) (locs : List Loc) (ls : Array Slot), (32 - j) < n9 → (j ≤ 32) → (∀ b, b < 32 → SS b = if b < j then smM It kk (Sp kk) T2_43 tt b (k - tt + 1) else smM It kk (Sp kk) T2_43 tt b (k - tt)) → va_P E.1 vwCl [(m0, .inr (9, [.int sh, .ref rO, .ref rU, .ref rT, .int rg, .ref rS, .ref rB, .ref rP, .ref rG, .long ab0, .long be0, .int (nI mk), .ref rM, .int (nI (adAll Ti mk).length), .ref rN, .ref rL, .ref rZ, .ref rE, .ref rI, .int hc, .ref rA, .ref rX, .int lnn, .ref rV, .ref rW, .int sl, .ref rC, .ref rF, .ref rQ, .ref rK, .ref rR, .ref rD])), (rL, .inl (E.2 1, 4, .inl La)), (rZ, .inl (E.2 1, 4, .inl (nA Sz))), (rE, .inl (E.2 1, 4, .inl (nA Sp))), (rI, .inl (E.2 1, 800, .inl It)), (rM, .inl (E.2 1, 60, .inl (nA Ti))), (rN, .inl (E.2 1, 120, .inl (nA T2_43))), (rA, .inl (E.2 1, 32, .inl gm)), (rX, .inl (E.2 2, 32, .inr (.inl SS)))] H → va_D A [(m0, .inr (9, [.int sh, .ref rO, .ref rU, .ref rT, .int rg, .ref rS, .ref rB, .ref rP, .ref rG, .long ab0, .long be0, .int (nI mk), .ref rM, .int (nI (adAll Ti mk).length), .ref rN, .ref rL, .ref rZ, .ref rE, .ref rI, .int hc, .ref rA, .ref rX, .int lnn, .ref rV, .ref rW, .int sl, .ref rC, .ref rF, .ref rQ, .ref rK, .ref rR, .ref rD])), (rL, .inl (E.2 1, 4, .inl La)), (rZ, .inl (E.2 1, 4, .inl (nA Sz))), (rE, .inl (E.2 1, 4, .inl (nA Sp))), (rI, .inl (E.2 1, 800, .inl It)), (rM, .inl (E.2 1, 60, .inl (nA Ti))), (rN, .inl (E.2 1, 120, .inl (nA T2_43))), (rA, .inl (E.2 1, 32, .inl gm)), (rX, .inl (E.2 2, 32, .inr (.inl SS)))] → va_S A s.heap H locs → lv_has ls 10 [(0, .ref m0), (1, .int (nI kk)), (2, .int (nI tt)), (3, .int (nI cc)), (4, .int (nI k)), (5, .int (nI (T2_43 k))), (6, .long (lN (T2_43 (k + 1) - T2_43 k))), (8, .int (nI j))] → W p l e _ s m _ below meth c H locs _ _ _ (F0 m 123 ls [])) => lp123 (33) 0 SS _ _ _ (by omega) (by omega) (fun b h9 => by rw [if_neg (by omega)]; exact hsm b h9) (hP.sub [0, 1, 2, 3, 4, 5, 6, 7, 8] rfl) (hD.sub [0, 1, 2, 3, 4, 5, 6, 7, 8] (by decide) rfl) hS (lv_sub hl [3, 4, 5, 6, 7, 2, 1, 0] rfl)) ?_
          intro n123
          induction n123 with
          | zero => intro j SS H locs ls h0; exact absurd (by assumption) (Nat.not_lt_zero _)
          | succ n123 ih123 =>
            intro j SS H locs ls hmu123 hj hsj hP hD hS hl
            refine lv_iload hx hb dX9_cut_123 (lv_at hl 7 rfl) ?_
            refine lv_bipush (v := 32) hx hb dX9_cut_125 (by decide) ?_
            refine lv_icmp_ge (tgt := 192) hx hb dX9_cut_127 (by decide) (fun c_127 => ?_) (fun c_127 => ?_)
            · have c_127 : 32 ≤ j := (nI_leI (a := 32) (b := j) (by omega) (by omega)).mp c_127
              refine lv_iinc (v := nI (k + 1)) (lv' := [(4, .int (nI (k + 1))), (0, .ref m0), (1, .int (nI kk)), (2, .int (nI tt)), (3, .int (nI cc)), (5, .int (nI (T2_43 k))), (6, .long (lN (T2_43 (k + 1) - T2_43 k))), (8, .int (nI j))]) hx hb dX9_cut_192 hl (k := 4) rfl (nI_add k 1) (by decide) rfl (fun ls hl => ?_)
              refine lv_goto (tgt := 88) hx hb dX9_cut_195 (by decide) ?_
              exact ih88 (k + 1) SS _ _ _ (by omega) (by omega) (by omega) (fun b h9 => by rw [hsj b h9, if_pos (by omega), show k + 1 - tt = k - tt + 1 by omega]) (hP.sub [0, 1, 2, 3, 4, 5, 6, 7, 8] rfl) (hD.sub [0, 1, 2, 3, 4, 5, 6, 7, 8] (by decide) rfl) hS (lv_sub hl [1, 2, 3, 4, 0] rfl)
            · have c_127 : ¬ 32 ≤ j := fun h9 => c_127 ((nI_leI (a := 32) (b := j) (by omega) (by omega)).mpr h9)
              have h127 := hic k (by omega)
              have h128 := hbd (k + 1) (by omega)
              have h129 := hbd k (by omega)
              refine lv_iload hx hb dX9_cut_130 (lv_at hl 5 rfl) ?_
              refine lv_lload hx hb dX9_cut_132 (lv_at hl 6 rfl) ?_
              refine lv_iload hx hb dX9_cut_134 (lv_at hl 7 rfl) ?_
              refine lv_i2l (v := lN j) hx hb dX9_cut_136 (nI_l (by omega)) ?_
              refine lv_lmul hx hb dX9_cut_137 ?_
              rw [show ((lN (T2_43 (k + 1) - T2_43 k)) * (lN j) : Int64) = lN ((T2_43 (k + 1) - T2_43 k) * j) from lN_mul (T2_43 (k + 1) - T2_43 k) j]
              refine lv_ldc2 (v := 32) hx hb hown (hts (.constantLong RX9 177 (32)) (by decide +kernel)) dX9_cut_138 ?_
              refine lv_ldiv hx hb dX9_cut_141 (by decide) ?_
              rw [show ((lN ((T2_43 (k + 1) - T2_43 k) * j)) / (32 : Int64) : Int64) = lN (((T2_43 (k + 1) - T2_43 k) * j) / 32) from pk_lDiv (a := (T2_43 (k + 1) - T2_43 k) * j) (b := 32) (by have h9 := Nat.mul_le_mul (show T2_43 (k + 1) - T2_43 k ≤ 1000000 by have h8 := hbd (k + 1) (by omega); omega) (show j ≤ 32 by omega); omega) (by omega) (by omega)]
              refine lv_l2i (v := nI (((T2_43 (k + 1) - T2_43 k) * j) / 32)) hx hb dX9_cut_142 (lN_i _) ?_
              refine lv_iadd hx hb dX9_cut_143 ?_
              rw [show ((nI (T2_43 k)) + (nI (((T2_43 (k + 1) - T2_43 k) * j) / 32)) : Int32) = nI ((T2_43 k) + (((T2_43 (k + 1) - T2_43 k) * j) / 32)) from nI_add (T2_43 k) (((T2_43 (k + 1) - T2_43 k) * j) / 32)]
              rw [show (nI ((T2_43 k) + (((T2_43 (k + 1) - T2_43 k) * j) / 32)) : Int32) = nI (tmF T2_43 k j) from rfl]
              have htm := tm_le (n := 0) (j := j) (hic k (by omega)) (hbd (k + 1) (by omega)) (by omega)
              refine lv_istore (lv' := [(9, .int (nI (tmF T2_43 k j))), (0, .ref m0), (1, .int (nI kk)), (2, .int (nI tt)), (3, .int (nI cc)), (4, .int (nI k)), (5, .int (nI (T2_43 k))), (6, .long (lN (T2_43 (k + 1) - T2_43 k))), (8, .int (nI j))]) hx hb dX9_cut_144 hl (by decide) rfl (fun ls hl => ?_)
              refine lv_iload hx hb dX9_cut_146 (lv_at hl 0 rfl) ?_
              refine lv_aload_n hx hb dX9_cut_148 rfl (lv_at hl 1 rfl) ?_
              refine va_get (D := E.1) (ci := 9) (v := .ref rZ) (C := RX9) (T := TX9) (N := 32) hx hb hts hinX9 hown hK hP 0 rfl rfl 16 (by decide) (hts (.fieldLink RX9 45 "WornRingsModel" "sizes" "[I") (by decide +kernel)) (fun _ h9 => h9) rfl dX9_cut_149 ?_
              refine lv_iload_n hx hb dX9_cut_152 rfl (lv_at hl 2 rfl) ?_
              refine va_iald hx hb hK hP 2 1 rfl rfl (vp_in_nI (by omega) (by omega)) dX9_cut_153 ?_
              rw [nI_clamp (n := kk) (by omega)]
              refine W.eq (g2 := F0 m 154 ls [.int (nI (Sz kk)), .int (nI (tmF T2_43 k j))]) rfl ?_
              refine lv_iconst (v := 1) hx hb dX9_cut_154 (by decide) ?_
              refine lv_isub hx hb dX9_cut_155 ?_
              refine lv_aload_n hx hb dX9_cut_156 rfl (lv_at hl 1 rfl) ?_
              refine va_get (D := E.1) (ci := 9) (v := .ref rE) (C := RX9) (T := TX9) (N := 32) hx hb hts hinX9 hown hK hP 0 rfl rfl 17 (by decide) (hts (.fieldLink RX9 48 "WornRingsModel" "steps" "[I") (by decide +kernel)) (fun _ h9 => h9) rfl dX9_cut_157 ?_
              refine lv_iload_n hx hb dX9_cut_160 rfl (lv_at hl 2 rfl) ?_
              refine va_iald hx hb hK hP 3 1 rfl rfl (vp_in_nI (by omega) (by omega)) dX9_cut_161 ?_
              rw [nI_clamp (n := kk) (by omega)]
              refine W.eq (g2 := F0 m 162 ls [.int (nI (Sp kk)), .int ((nI (Sz kk)) - 1), .int (nI (tmF T2_43 k j))]) rfl ?_
              refine lv_imul hx hb dX9_cut_162 ?_
              refine lv_icmp_le (tgt := 169) hx hb dX9_cut_163 (by decide) (fun c_163 => ?_) (fun c_163 => by exfalso; exact c_163 ((le_lh (by omega) hn hs1 hs2).mpr (by have h9 := hyes.2 k j (by omega) (by omega) (by omega); rw [htmc k j (by omega)]; exact h9)))
              have c_163 := (le_lh (by omega) hn hs1 hs2).mp c_163
              obtain ⟨hx1, hx2⟩ := hd_ix c_163.1 hn hs1 c_163.2
              refine lv_aload_n hx hb dX9_cut_169 rfl (lv_at hl 1 rfl) ?_
              refine va_get (D := E.1) (ci := 9) (v := .ref rX) (C := RX9) (T := TX9) (N := 32) hx hb hts hinX9 hown hK hP 0 rfl rfl 21 (by decide) (hts (.fieldLink RX9 57 "WornRingsModel" "sums" "[J") (by decide +kernel)) (fun _ h9 => h9) rfl dX9_cut_170 ?_
              refine lv_iload hx hb dX9_cut_173 (lv_at hl 8 rfl) ?_
              refine lv_dup2_11 hx hb dX9_cut_175 rfl rfl ?_
              refine va_lald hx hb hK hP 8 2 rfl rfl (vp_in_nI (by omega) (by omega)) dX9_cut_176 ?_
              rw [nI_clamp (n := j) (by omega)]
              refine lv_aload_n hx hb dX9_cut_177 rfl (lv_at hl 1 rfl) ?_
              refine lv_iload_n hx hb dX9_cut_178 rfl (lv_at hl 2 rfl) ?_
              refine lv_iload hx hb dX9_cut_179 (lv_at hl 0 rfl) ?_
              refine rVl hE ⟨hx, hb, hml, hown, hts⟩ (c_X9_heard l E m0 sh rO rU rT rg rS rB rP rG ab0 be0 (nI mk) rM (nI (adAll Ti mk).length) rN rL rZ rE rI hc rA rX lnn rV rW sl rC rF rQ rK rR rD Sp It kk (tmF T2_43 k j) (hk) (hs1) (hs2) (hx1) (hx2) (by omega)) (cwV 2 hts gX9_cut_X9_heard rfl rfl rfl (by decide +kernel) ⟨Nat.le_of_ble_eq_true rfl, Nat.le_of_ble_eq_true rfl⟩) (hP.sub [0, 3, 4] rfl) 0 9 rfl rfl rfl hl.1 rfl (Nat.le_of_ble_eq_true rfl) dX9_cut_181 ⟨(Nat.zero_le _), (Nat.zero_le _)⟩ ?_
              refine lv_ladd hx hb dX9_cut_184 ?_
              refine va_last hx hb hK hP hD hS 8 2 rfl rfl (vp_in_nI (by omega) (by omega)) dX9_cut_185 (fun H locs hP hD hS => ?_)
              rw [nI_clamp (n := j) (by omega)] at hP hD
              have hP : va_P E.1 vwCl [(m0, .inr (9, [.int sh, .ref rO, .ref rU, .ref rT, .int rg, .ref rS, .ref rB, .ref rP, .ref rG, .long ab0, .long be0, .int (nI mk), .ref rM, .int (nI (adAll Ti mk).length), .ref rN, .ref rL, .ref rZ, .ref rE, .ref rI, .int hc, .ref rA, .ref rX, .int lnn, .ref rV, .ref rW, .int sl, .ref rC, .ref rF, .ref rQ, .ref rK, .ref rR, .ref rD])), (rL, .inl (E.2 1, 4, .inl La)), (rZ, .inl (E.2 1, 4, .inl (nA Sz))), (rE, .inl (E.2 1, 4, .inl (nA Sp))), (rI, .inl (E.2 1, 800, .inl It)), (rM, .inl (E.2 1, 60, .inl (nA Ti))), (rN, .inl (E.2 1, 120, .inl (nA T2_43))), (rA, .inl (E.2 1, 32, .inl gm)), (rX, .inl (E.2 2, 32, .inr (.inl (vp_updL SS j ((SS j) + (fHd It kk (Sp kk) (tmF T2_43 k j)))))))] H := hP
              have hD : va_D A [(m0, .inr (9, [.int sh, .ref rO, .ref rU, .ref rT, .int rg, .ref rS, .ref rB, .ref rP, .ref rG, .long ab0, .long be0, .int (nI mk), .ref rM, .int (nI (adAll Ti mk).length), .ref rN, .ref rL, .ref rZ, .ref rE, .ref rI, .int hc, .ref rA, .ref rX, .int lnn, .ref rV, .ref rW, .int sl, .ref rC, .ref rF, .ref rQ, .ref rK, .ref rR, .ref rD])), (rL, .inl (E.2 1, 4, .inl La)), (rZ, .inl (E.2 1, 4, .inl (nA Sz))), (rE, .inl (E.2 1, 4, .inl (nA Sp))), (rI, .inl (E.2 1, 800, .inl It)), (rM, .inl (E.2 1, 60, .inl (nA Ti))), (rN, .inl (E.2 1, 120, .inl (nA T2_43))), (rA, .inl (E.2 1, 32, .inl gm)), (rX, .inl (E.2 2, 32, .inr (.inl (vp_updL SS j ((SS j) + (fHd It kk (Sp kk) (tmF T2_43 k j)))))))] := hD
              refine lv_iinc (v := nI (j + 1)) (lv' := [(8, .int (nI (j + 1))), (9, .int (nI (tmF T2_43 k j))), (0, .ref m0), (1, .int (nI kk)), (2, .int (nI tt)), (3, .int (nI cc)), (4, .int (nI k)), (5, .int (nI (T2_43 k))), (6, .long (lN (T2_43 (k + 1) - T2_43 k)))]) hx hb dX9_cut_186 hl (k := 8) rfl (nI_add j 1) (by decide) rfl (fun ls hl => ?_)
              refine lv_goto (tgt := 123) hx hb dX9_cut_189 (by decide) ?_
              exact ih123 (j + 1) (vp_updL SS j ((SS j) + (fHd It kk (Sp kk) (tmF T2_43 k j)))) _ _ _ (by omega) (by omega) (fun b h9 => by
        by_cases eb : b = j
        · subst eb
          rw [updL_s, if_pos (by omega), hsj b h9, if_neg (by omega), smM, show tt + (k - tt) = k by omega]
        · rw [updL_n eb, hsj b h9]
          by_cases g : b < j
          · rw [if_pos g, if_pos (by omega)]
          · rw [if_neg g, if_neg (by omega)]) (hP.sub [0, 1, 2, 3, 4, 5, 6, 7, 8] rfl) (hD.sub [0, 1, 2, 3, 4, 5, 6, 7, 8] (by decide) rfl) hS (lv_sub hl [2, 3, 4, 5, 6, 7, 8, 0] rfl)
    · have c_68 : ¬ 32 ≤ j := fun h9 => c_68 ((nI_leI (a := 32) (b := j) (by omega) (by omega)).mpr h9)
      refine lv_aload_n hx hb dX9_cut_71 rfl (lv_at hl 0 rfl) ?_
      refine va_get (D := E.1) (ci := 9) (v := .ref rX) (C := RX9) (T := TX9) (N := 32) hx hb hts hinX9 hown hK hP 0 rfl rfl 21 (by decide) (hts (.fieldLink RX9 57 "WornRingsModel" "sums" "[J") (by decide +kernel)) (fun _ h9 => h9) rfl dX9_cut_72 ?_
      refine lv_iload hx hb dX9_cut_75 (lv_at hl 4 rfl) ?_
      refine lv_lconst (v := 0) hx hb dX9_cut_77 (by decide) ?_
      refine va_last hx hb hK hP hD hS 8 2 rfl rfl (vp_in_nI (by omega) (by omega)) dX9_cut_78 (fun H locs hP hD hS => ?_)
      rw [nI_clamp (n := j) (by omega)] at hP hD
      have hP : va_P E.1 vwCl [(m0, .inr (9, [.int sh, .ref rO, .ref rU, .ref rT, .int rg, .ref rS, .ref rB, .ref rP, .ref rG, .long ab0, .long be0, .int (nI mk), .ref rM, .int (nI (adAll Ti mk).length), .ref rN, .ref rL, .ref rZ, .ref rE, .ref rI, .int hc, .ref rA, .ref rX, .int lnn, .ref rV, .ref rW, .int sl, .ref rC, .ref rF, .ref rQ, .ref rK, .ref rR, .ref rD])), (rL, .inl (E.2 1, 4, .inl La)), (rZ, .inl (E.2 1, 4, .inl (nA Sz))), (rE, .inl (E.2 1, 4, .inl (nA Sp))), (rI, .inl (E.2 1, 800, .inl It)), (rM, .inl (E.2 1, 60, .inl (nA Ti))), (rN, .inl (E.2 1, 120, .inl (nA T2_43))), (rA, .inl (E.2 1, 32, .inl gm)), (rX, .inl (E.2 2, 32, .inr (.inl (vp_updL SS j 0))))] H := hP
      have hD : va_D A [(m0, .inr (9, [.int sh, .ref rO, .ref rU, .ref rT, .int rg, .ref rS, .ref rB, .ref rP, .ref rG, .long ab0, .long be0, .int (nI mk), .ref rM, .int (nI (adAll Ti mk).length), .ref rN, .ref rL, .ref rZ, .ref rE, .ref rI, .int hc, .ref rA, .ref rX, .int lnn, .ref rV, .ref rW, .int sl, .ref rC, .ref rF, .ref rQ, .ref rK, .ref rR, .ref rD])), (rL, .inl (E.2 1, 4, .inl La)), (rZ, .inl (E.2 1, 4, .inl (nA Sz))), (rE, .inl (E.2 1, 4, .inl (nA Sp))), (rI, .inl (E.2 1, 800, .inl It)), (rM, .inl (E.2 1, 60, .inl (nA Ti))), (rN, .inl (E.2 1, 120, .inl (nA T2_43))), (rA, .inl (E.2 1, 32, .inl gm)), (rX, .inl (E.2 2, 32, .inr (.inl (vp_updL SS j 0))))] := hD
      refine lv_iinc (v := nI (j + 1)) (lv' := [(4, .int (nI (j + 1))), (0, .ref m0), (1, .int (nI kk)), (2, .int (nI tt)), (3, .int (nI cc))]) hx hb dX9_cut_79 hl (k := 4) rfl (nI_add j 1) (by decide) rfl (fun ls hl => ?_)
      refine lv_goto (tgt := 64) hx hb dX9_cut_82 (by decide) ?_
      exact ih64 (j + 1) (vp_updL SS j 0) _ _ _ (by omega) (by omega) (fun b h9 => by
        by_cases eb : b = j
        · subst eb; rw [updL_s]
        · rw [updL_n eb]; exact hz b (by omega)) (hP.sub [0, 1, 2, 3, 4, 5, 6, 7, 8] rfl) (hD.sub [0, 1, 2, 3, 4, 5, 6, 7, 8] (by decide) rfl) hS (lv_sub hl [1, 2, 3, 4, 0] rfl)
