/-! the model: heap -/
theorem m1_le (n : Nat) (h : n < 2 ^ 30) : (-1 : Int32) ≤ nI n - 1 := by
  have h2 : (nI n - 1).toInt = (n : Int) - 1 := pk_sub_toInt (a := n) (b := 1) h (by omega)
  rw [Int32.le_iff_toInt_le, h2, show (-1 : Int32).toInt = -1 from rfl]; omega
theorem neg1 {x : Int32} (h : (-1) ≤ x) (h2 : ¬ 0 ≤ x) : x = -1 := by
  apply Int32.toInt_inj.mp
  rw [Int32.le_iff_toInt_le] at h h2
  rw [show (-1 : Int32).toInt = -1 from rfl] at h ⊢
  rw [show (0 : Int32).toInt = 0 from rfl] at h2
  omega
theorem nI_m1 {i : Nat} (h : i < 2 ^ 31) : ¬ nI i = -1 := by
  intro e
  have h1 := congrArg Int32.toInt e
  rw [nI_toInt h, show (-1 : Int32).toInt = -1 from rfl] at h1
  omega
theorem flF_b {F g : Nat → Nat} {n : Nat} (h1 : ∀ i, F i < 4096) (h2 : ∀ i, g i < 4096) (i : Nat) : flF F n g i < 4096 := by
  unfold flF; split
  · exact h1 i
  · exact h2 i
def hpM (cov : Nat → Nat) (N : Nat) : List Nat := mdlF (pairC cov N 0) (orC cov N)
theorem pairC_congr {f g : Nat → Nat} : ∀ (j p : Nat), (∀ i, p ≤ i → i < p + j → f i = g i) → pairC f j p = pairC g j p
  | 0, _, _ => rfl
  | j + 1, p, h => by simp only [pairC]; rw [h p (by omega) (by omega), pairC_congr j (p + 1) (fun i h1 h2 => h i (by omega) (by omega))]
theorem sufC_mem {cov : Nat → Nat} : ∀ (j p i : Nat), p ≤ i → i < p + j → cov i ∈ sufC cov j p
  | 0, p, i, h1, h2 => by omega
  | j + 1, p, i, h1, h2 => by
    simp only [sufC]
    rcases Nat.eq_or_lt_of_le h1 with e | e
    · subst e; exact List.mem_cons_self
    · exact List.mem_cons_of_mem _ (sufC_mem j (p + 1) i e (by omega))
theorem orC_ex {cov : Nat → Nat} : ∀ n b, (orC cov n).testBit b = true → ∃ i, i < n ∧ (cov i).testBit b = true
  | 0, b, h => by simp [orC] at h
  | n + 1, b, h => by
    simp only [orC, Nat.testBit_or, Bool.or_eq_true] at h
    rcases h with h | h
    · obtain ⟨i, h1, h2⟩ := orC_ex n b h; exact ⟨i, by omega, h2⟩
    · exact ⟨n, by omega, h⟩
theorem hp_12 {cov : Nat → Nat} {N : Nat} (h : ∀ i, cov i < 4096) : Hf (sufC cov N 0) (orC cov N) ≤ 12 :=
  Hf_feas _ 12 _ (fun b hb => by obtain ⟨i, h1, h2⟩ := orC_ex N b hb; exact ⟨cov i, sufC_mem N 0 i (by omega) (by omega), h2⟩) (orC_lt h N)
theorem hpM_len {cov : Nat → Nat} {N : Nat} (h : ∀ i, cov i < 4096) : (hpM cov N).length = Hf (sufC cov N 0) (orC cov N) := by
  have h1 := hp_12 (N := N) h
  rw [hpM, mdl_len _ _ (by rw [pairC_snd]; omega), pairC_snd]
theorem hp_end {CC : Nat → Nat} {N p left met i : Nat} {R : List Nat} (h : mdlF (pairC CC (N - p) p) left = R.drop met) (hp : N ≤ p) (hi : met ≤ i) (hl : i < R.length) : False := by
  rw [show N - p = 0 by omega, pairC, mdlF] at h
  have h1 := congrArg List.length h
  rw [List.length_drop] at h1
  simp only [List.length_nil] at h1
  omega
theorem hp_take {CC : Nat → Nat} {N p left met : Nat} {R : List Nat} (h : mdlF (pairC CC (N - p) p) left = R.drop met) (hp : p < N) (h0 : ¬ CC p = 0) (hc : 1 + Hf (sufC CC (N - (p + 1)) (p + 1)) (mdf left (CC p)) = Hf (sufC CC (N - p) p) left) : R.getD met 0 = p ∧ mdlF (pairC CC (N - (p + 1)) (p + 1)) (mdf left (CC p)) = R.drop (met + 1) := by
  rw [pair_s hp, mdlF, if_pos ⟨h0, by rw [pairC_snd]; rw [suf_s hp] at hc; exact hc⟩] at h
  have h1 : met < R.length := by
    rcases Nat.lt_or_ge met R.length with g | g
    · exact g
    · rw [List.drop_eq_nil_of_le g] at h; exact absurd h (by simp)
  rw [List.drop_eq_getElem_cons h1] at h
  injection h with h2 h3
  exact ⟨by rw [List.getD, List.getElem?_eq_getElem h1]; exact h2.symm, h3⟩
theorem hp_skip {CC : Nat → Nat} {N p left met : Nat} {R : List Nat} (h : mdlF (pairC CC (N - p) p) left = R.drop met) (hp : p < N) (hc : CC p = 0 ∨ ¬ 1 + Hf (sufC CC (N - (p + 1)) (p + 1)) (mdf left (CC p)) = Hf (sufC CC (N - p) p) left) : mdlF (pairC CC (N - (p + 1)) (p + 1)) left = R.drop met := by
  rw [pair_s hp, mdlF, if_neg] at h
  · exact h
  · rintro ⟨h1, h2⟩
    rw [pairC_snd] at h2
    rcases hc with hc | hc
    · exact h1 hc
    · rw [suf_s hp] at hc; exact hc h2

set_option maxHeartbeats 1000000 in
set_option maxRecDepth 100000 in
theorem c_X9_heap (l : Launch) (E : EnvT) (sz : Nat) (m0 : Nat) (sh : Nat) (rO : Nat) (rU : Nat) (rT : Nat) (rg : Nat) (rS : Nat) (rB : Nat) (rP : Nat) (rG : Nat) (ab0 : Int64) (be0 : Int64) (mk : Int32) (rM : Nat) (md : Int32) (rN : Nat) (rL : Nat) (rZ : Nat) (rE : Nat) (rI : Nat) (hc : Int32) (rA : Nat) (rX : Nat) (n : Nat) (rV : Nat) (rW : Nat) (th : Nat) (rC : Nat) (rF : Nat) (rQ : Nat) (rK : Nat) (rR : Nat) (rD : Nat) (U : Nat → Nat) (V : Nat → Nat) (Te : Nat → Nat) (Si : Nat → Nat) (Ba : Nat → Nat) (Sm : Nat → Nat) (Gr : Nat → Nat) (To : Nat → Int32) (Bo : Nat → Int32) (Cv : Nat → Nat) (Fw : Nat → Nat) (iv : Int32) (hM : ModM sh rg U V Te Si Ba Sm Gr) (hn : n ≤ 12) (hth : th ≤ 100) (hCv : ∀ i, Cv i < 4096) : Met l yX9_heap wsX9_heap ({ frames := 6, cells := 0, slots := 0, locals := 146 }) (va_Pc [.ref m0, .int iv] (PW E [(m0, .inr (9, [.int (nI sh), .ref rO, .ref rU, .ref rT, .int (nI rg), .ref rS, .ref rB, .ref rP, .ref rG, .long ab0, .long be0, .int mk, .ref rM, .int md, .ref rN, .ref rL, .ref rZ, .ref rE, .ref rI, .int hc, .ref rA, .ref rX, .int (nI n), .ref rV, .ref rW, .int (nI th), .ref rC, .ref rF, .ref rQ, .ref rK, .ref rR, .ref rD])), (rO, .inl (E.2 2, 4, .inr (.inl (lA U)))), (rU, .inl (E.2 2, 4, .inr (.inl (lA V)))), (rT, .inl (E.2 1, 4, .inl (nA Te))), (rS, .inl (E.2 1, 8, .inl (nA Si))), (rB, .inl (E.2 1, 8, .inl (nA Ba))), (rP, .inl (E.2 1, 8, .inl (nA Sm))), (rG, .inl (E.2 1, 8, .inl (nA Gr))), (rV, .inl (E.2 1, 12, .inl To)), (rW, .inl (E.2 1, 12, .inl Bo)), (rC, .inl (E.2 1, 40, .inl (nA Cv))), (rF, .inl (E.2 1, 163840, .inl (nA Fw)))] sz)) (va_Qi (fun (r : Int32) (uu : Int64 × Int64 × (Nat → Nat) × (Nat → Nat)) => r = fHp (hpM (covM sh U V Te Si Ba Sm Gr To Bo th n) (2 * sh - 1 + 4 * rg)) iv ∧ (∀ i, uu.2.2.1 i < 4096)) (fun (uu : Int64 × Int64 × (Nat → Nat) × (Nat → Nat)) t => BW E (va_A [(m0, .inr (9, [.int (nI sh), .ref rO, .ref rU, .ref rT, .int (nI rg), .ref rS, .ref rB, .ref rP, .ref rG, .long ab0, .long be0, .int mk, .ref rM, .int md, .ref rN, .ref rL, .ref rZ, .ref rE, .ref rI, .int hc, .ref rA, .ref rX, .int (nI n), .ref rV, .ref rW, .int (nI th), .ref rC, .ref rF, .ref rQ, .ref rK, .ref rR, .ref rD])), (rO, .inl (E.2 2, 4, .inr (.inl (lA U)))), (rU, .inl (E.2 2, 4, .inr (.inl (lA V)))), (rT, .inl (E.2 1, 4, .inl (nA Te))), (rS, .inl (E.2 1, 8, .inl (nA Si))), (rB, .inl (E.2 1, 8, .inl (nA Ba))), (rP, .inl (E.2 1, 8, .inl (nA Sm))), (rG, .inl (E.2 1, 8, .inl (nA Gr))), (rV, .inl (E.2 1, 12, .inl To)), (rW, .inl (E.2 1, 12, .inl Bo)), (rC, .inl (E.2 1, 40, .inl (nA Cv))), (rF, .inl (E.2 1, 163840, .inl (nA Fw)))] sz) [(m0, .inr (9, [.int (nI sh), .ref rO, .ref rU, .ref rT, .int (nI rg), .ref rS, .ref rB, .ref rP, .ref rG, .long uu.1, .long uu.2.1, .int mk, .ref rM, .int md, .ref rN, .ref rL, .ref rZ, .ref rE, .ref rI, .int hc, .ref rA, .ref rX, .int (nI n), .ref rV, .ref rW, .int (nI th), .ref rC, .ref rF, .ref rQ, .ref rK, .ref rR, .ref rD])), (rO, .inl (E.2 2, 4, .inr (.inl (lA U)))), (rU, .inl (E.2 2, 4, .inr (.inl (lA V)))), (rT, .inl (E.2 1, 4, .inl (nA Te))), (rS, .inl (E.2 1, 8, .inl (nA Si))), (rB, .inl (E.2 1, 8, .inl (nA Ba))), (rP, .inl (E.2 1, 8, .inl (nA Sm))), (rG, .inl (E.2 1, 8, .inl (nA Gr))), (rV, .inl (E.2 1, 12, .inl To)), (rW, .inl (E.2 1, 12, .inl Bo)), (rC, .inl (E.2 1, 40, .inl (nA uu.2.2.1))), (rF, .inl (E.2 1, 163840, .inl (nA uu.2.2.2)))] t) (va_A [(m0, .inr (9, [.int (nI sh), .ref rO, .ref rU, .ref rT, .int (nI rg), .ref rS, .ref rB, .ref rP, .ref rG, .long ab0, .long be0, .int mk, .ref rM, .int md, .ref rN, .ref rL, .ref rZ, .ref rE, .ref rI, .int hc, .ref rA, .ref rX, .int (nI n), .ref rV, .ref rW, .int (nI th), .ref rC, .ref rF, .ref rQ, .ref rK, .ref rR, .ref rD])), (rO, .inl (E.2 2, 4, .inr (.inl (lA U)))), (rU, .inl (E.2 2, 4, .inr (.inl (lA V)))), (rT, .inl (E.2 1, 4, .inl (nA Te))), (rS, .inl (E.2 1, 8, .inl (nA Si))), (rB, .inl (E.2 1, 8, .inl (nA Ba))), (rP, .inl (E.2 1, 8, .inl (nA Sm))), (rG, .inl (E.2 1, 8, .inl (nA Gr))), (rV, .inl (E.2 1, 12, .inl To)), (rW, .inl (E.2 1, 12, .inl Bo)), (rC, .inl (E.2 1, 40, .inl (nA Cv))), (rF, .inl (E.2 1, 163840, .inl (nA Fw)))] sz)) 0 0 (va_A [(m0, .inr (9, [.int (nI sh), .ref rO, .ref rU, .ref rT, .int (nI rg), .ref rS, .ref rB, .ref rP, .ref rG, .long ab0, .long be0, .int mk, .ref rM, .int md, .ref rN, .ref rL, .ref rZ, .ref rE, .ref rI, .int hc, .ref rA, .ref rX, .int (nI n), .ref rV, .ref rW, .int (nI th), .ref rC, .ref rF, .ref rQ, .ref rK, .ref rR, .ref rD])), (rO, .inl (E.2 2, 4, .inr (.inl (lA U)))), (rU, .inl (E.2 2, 4, .inr (.inl (lA V)))), (rT, .inl (E.2 1, 4, .inl (nA Te))), (rS, .inl (E.2 1, 8, .inl (nA Si))), (rB, .inl (E.2 1, 8, .inl (nA Ba))), (rP, .inl (E.2 1, 8, .inl (nA Sm))), (rG, .inl (E.2 1, 8, .inl (nA Gr))), (rV, .inl (E.2 1, 12, .inl To)), (rW, .inl (E.2 1, 12, .inl Bo)), (rC, .inl (E.2 1, 40, .inl (nA Cv))), (rF, .inl (E.2 1, 163840, .inl (nA Fw)))] sz) := by
  refine Met.ofW (cc := cX9_heap) (maxL := 7) (ret := (some .int)) (by decide +kernel) rfl ?_
  intro p e s m args below meth c s₁ B hml hv
  obtain ⟨rfl, hsz, hP, hE, hD0⟩ := hv
  have hx := B.exec
  have hb := B.bytes
  have hr := B.returns
  have hts := atoms_spec (ws := wsX9_heap) B.pre
  have hown : s.vm.findClass RX9 = some m.cls := findClass_of_methodNamed B.named
  have hlocks := B.notSynchronized
  have hK := hE.1
  have hNN := hE.2.1
  have hinX9 : ∀ w ∈ wsX90, w ∈ wsX9_heap := fun w h => List.mem_cons_of_mem _ (List.mem_append_right _ h)
  subst hsz
  have hD := hD0.self (sz := s.heap.size)
  generalize hAe : va_A [(m0, .inr (9, [.int (nI sh), .ref rO, .ref rU, .ref rT, .int (nI rg), .ref rS, .ref rB, .ref rP, .ref rG, .long ab0, .long be0, .int mk, .ref rM, .int md, .ref rN, .ref rL, .ref rZ, .ref rE, .ref rI, .int hc, .ref rA, .ref rX, .int (nI n), .ref rV, .ref rW, .int (nI th), .ref rC, .ref rF, .ref rQ, .ref rK, .ref rR, .ref rD])), (rO, .inl (E.2 2, 4, .inr (.inl (lA U)))), (rU, .inl (E.2 2, 4, .inr (.inl (lA V)))), (rT, .inl (E.2 1, 4, .inl (nA Te))), (rS, .inl (E.2 1, 8, .inl (nA Si))), (rB, .inl (E.2 1, 8, .inl (nA Ba))), (rP, .inl (E.2 1, 8, .inl (nA Sm))), (rG, .inl (E.2 1, 8, .inl (nA Gr))), (rV, .inl (E.2 1, 12, .inl To)), (rW, .inl (E.2 1, 12, .inl Bo)), (rC, .inl (E.2 1, 40, .inl (nA Cv))), (rF, .inl (E.2 1, 163840, .inl (nA Fw)))] s.heap.size = A at hD ⊢
  have hA : ∀ q : Nat, s.heap.size ≤ q → A q := fun q h => by rw [← hAe]; exact Or.inr h
  have hS : va_S A s.heap s.heap [] := va_S.rf
  have hl := lv_entry ([.ref m0, .int iv]) (n := 7) (Nat.le_of_ble_eq_true rfl)
  rw [lg_entry_eq]
  generalize (lg_sl ([.ref m0, .int iv]) ++ List.replicate (7 - (lg_sl ([.ref m0, .int iv])).length) Slot.unset).toArray = ls at hl ⊢
  have hl : lv_has ls 7 [(0, .ref m0), (1, .int iv)] := hl
  obtain ⟨⟨hs1, hs4, hr8⟩, -⟩ := id hM
  refine lv_aload_n hx hb dX9_heap_0 rfl (lv_at hl 0 rfl) ?_
  refine wVi (wr := [(rF, .inl (E.2 1, 163840, .inl (nA Fw)))]) hE ⟨hx, hb, hml, hown, hts⟩ (c_X9_findCovers l E s.heap.size m0 sh rO rU rT rg rS rB rP rG ab0 be0 mk rM md rN rL rZ rE rI hc rA rX n rV rW th rC rF rQ rK rR rD U V Te Si Ba Sm Gr To Bo Cv (hM) (hn) (hth)) (cwV 0 hts gX9_heap_X9_findCovers rfl rfl rfl (by decide +kernel) ⟨Nat.le_of_ble_eq_true rfl, Nat.le_of_ble_eq_true rfl⟩) hP hD hS hA [0, 1, 2, 3, 4, 5, 6, 7, 8, 9, 10] [11] rfl rfl (by decide) (by decide) (by decide) 0 9 rfl rfl rfl hl.1 rfl (Nat.le_of_ble_eq_true rfl) dX9_heap_1 ⟨(Nat.zero_le _), (Nat.zero_le _)⟩ (fun r_1 u H locs hw hP hD hS => ?_)
  obtain ⟨ab1_1, be1_1⟩ := u
  have hP : va_P E.1 vwCl [(rF, .inl (E.2 1, 163840, .inl (nA Fw))), (m0, .inr (9, [.int (nI sh), .ref rO, .ref rU, .ref rT, .int (nI rg), .ref rS, .ref rB, .ref rP, .ref rG, .long ab1_1, .long be1_1, .int mk, .ref rM, .int md, .ref rN, .ref rL, .ref rZ, .ref rE, .ref rI, .int hc, .ref rA, .ref rX, .int (nI n), .ref rV, .ref rW, .int (nI th), .ref rC, .ref rF, .ref rQ, .ref rK, .ref rR, .ref rD])), (rO, .inl (E.2 2, 4, .inr (.inl (lA U)))), (rU, .inl (E.2 2, 4, .inr (.inl (lA V)))), (rT, .inl (E.2 1, 4, .inl (nA Te))), (rS, .inl (E.2 1, 8, .inl (nA Si))), (rB, .inl (E.2 1, 8, .inl (nA Ba))), (rP, .inl (E.2 1, 8, .inl (nA Sm))), (rG, .inl (E.2 1, 8, .inl (nA Gr))), (rV, .inl (E.2 1, 12, .inl To)), (rW, .inl (E.2 1, 12, .inl Bo)), (rC, .inl (E.2 1, 40, .inl (nA (flF (covM sh U V Te Si Ba Sm Gr To Bo th n) (2 * sh - 1 + 4 * rg) Cv))))] H := hP
  have hD : va_D A [(rF, .inl (E.2 1, 163840, .inl (nA Fw))), (m0, .inr (9, [.int (nI sh), .ref rO, .ref rU, .ref rT, .int (nI rg), .ref rS, .ref rB, .ref rP, .ref rG, .long ab1_1, .long be1_1, .int mk, .ref rM, .int md, .ref rN, .ref rL, .ref rZ, .ref rE, .ref rI, .int hc, .ref rA, .ref rX, .int (nI n), .ref rV, .ref rW, .int (nI th), .ref rC, .ref rF, .ref rQ, .ref rK, .ref rR, .ref rD])), (rO, .inl (E.2 2, 4, .inr (.inl (lA U)))), (rU, .inl (E.2 2, 4, .inr (.inl (lA V)))), (rT, .inl (E.2 1, 4, .inl (nA Te))), (rS, .inl (E.2 1, 8, .inl (nA Si))), (rB, .inl (E.2 1, 8, .inl (nA Ba))), (rP, .inl (E.2 1, 8, .inl (nA Sm))), (rG, .inl (E.2 1, 8, .inl (nA Gr))), (rV, .inl (E.2 1, 12, .inl To)), (rW, .inl (E.2 1, 12, .inl Bo)), (rC, .inl (E.2 1, 40, .inl (nA (flF (covM sh U V Te Si Ba Sm Gr To Bo th n) (2 * sh - 1 + 4 * rg) Cv))))] := hD
  rw [hw]
  obtain ⟨CC, hCC⟩ : ∃ z, z = flF (covM sh U V Te Si Ba Sm Gr To Bo th n) (2 * sh - 1 + 4 * rg) Cv := ⟨_, rfl⟩
  rw [← hCC] at hP hD
  have hP : va_P E.1 vwCl [(rF, .inl (E.2 1, 163840, .inl (nA Fw))), (m0, .inr (9, [.int (nI sh), .ref rO, .ref rU, .ref rT, .int (nI rg), .ref rS, .ref rB, .ref rP, .ref rG, .long ab1_1, .long be1_1, .int mk, .ref rM, .int md, .ref rN, .ref rL, .ref rZ, .ref rE, .ref rI, .int hc, .ref rA, .ref rX, .int (nI n), .ref rV, .ref rW, .int (nI th), .ref rC, .ref rF, .ref rQ, .ref rK, .ref rR, .ref rD])), (rO, .inl (E.2 2, 4, .inr (.inl (lA U)))), (rU, .inl (E.2 2, 4, .inr (.inl (lA V)))), (rT, .inl (E.2 1, 4, .inl (nA Te))), (rS, .inl (E.2 1, 8, .inl (nA Si))), (rB, .inl (E.2 1, 8, .inl (nA Ba))), (rP, .inl (E.2 1, 8, .inl (nA Sm))), (rG, .inl (E.2 1, 8, .inl (nA Gr))), (rV, .inl (E.2 1, 12, .inl To)), (rW, .inl (E.2 1, 12, .inl Bo)), (rC, .inl (E.2 1, 40, .inl (nA CC)))] H := hP
  have hD : va_D A [(rF, .inl (E.2 1, 163840, .inl (nA Fw))), (m0, .inr (9, [.int (nI sh), .ref rO, .ref rU, .ref rT, .int (nI rg), .ref rS, .ref rB, .ref rP, .ref rG, .long ab1_1, .long be1_1, .int mk, .ref rM, .int md, .ref rN, .ref rL, .ref rZ, .ref rE, .ref rI, .int hc, .ref rA, .ref rX, .int (nI n), .ref rV, .ref rW, .int (nI th), .ref rC, .ref rF, .ref rQ, .ref rK, .ref rR, .ref rD])), (rO, .inl (E.2 2, 4, .inr (.inl (lA U)))), (rU, .inl (E.2 2, 4, .inr (.inl (lA V)))), (rT, .inl (E.2 1, 4, .inl (nA Te))), (rS, .inl (E.2 1, 8, .inl (nA Si))), (rB, .inl (E.2 1, 8, .inl (nA Ba))), (rP, .inl (E.2 1, 8, .inl (nA Sm))), (rG, .inl (E.2 1, 8, .inl (nA Gr))), (rV, .inl (E.2 1, 12, .inl To)), (rW, .inl (E.2 1, 12, .inl Bo)), (rC, .inl (E.2 1, 40, .inl (nA CC)))] := hD
  obtain ⟨tg, htg⟩ : ∃ z, z = orC (covM sh U V Te Si Ba Sm Gr To Bo th n) (2 * sh - 1 + 4 * rg) := ⟨_, rfl⟩
  rw [← htg]
  have hcb : ∀ i, covM sh U V Te Si Ba Sm Gr To Bo th n i < 4096 := covM_lt hn
  have hCb : ∀ i, CC i < 4096 := fun i => by rw [hCC]; exact flF_b hcb hCv i
  have htb : tg < 4096 := by rw [htg]; exact orC_lt hcb _
  have hpc : pairC CC (2 * sh - 1 + 4 * rg) 0 = pairC (covM sh U V Te Si Ba Sm Gr To Bo th n) (2 * sh - 1 + 4 * rg) 0 := pairC_congr _ _ (fun i h1 h2 => by rw [hCC]; unfold flF; rw [if_pos (by omega)])
  have hR : mdlF (pairC CC (2 * sh - 1 + 4 * rg) 0) tg = hpM (covM sh U V Te Si Ba Sm Gr To Bo th n) (2 * sh - 1 + 4 * rg) := by rw [hpc, htg]; rfl
  have hsf : sufC CC (2 * sh - 1 + 4 * rg) 0 = sufC (covM sh U V Te Si Ba Sm Gr To Bo th n) (2 * sh - 1 + 4 * rg) 0 := by rw [← pairC_snd, ← pairC_snd, hpc]
  have hRl : (hpM (covM sh U V Te Si Ba Sm Gr To Bo th n) (2 * sh - 1 + 4 * rg)).length = Hf (sufC CC (2 * sh - 1 + 4 * rg) 0) tg := by rw [hpM_len hcb, hsf, htg]
  have hR12 : Hf (sufC CC (2 * sh - 1 + 4 * rg) 0) tg ≤ 12 := by rw [hsf, htg]; exact hp_12 hcb
  refine lv_istore_n (lv' := [(2, .int (nI tg)), (0, .ref m0), (1, .int iv)]) hx hb dX9_heap_4 rfl hl (by decide) rfl (fun ls hl => ?_)
  refine lv_aload_n hx hb dX9_heap_5 rfl (lv_at hl 1 rfl) ?_
  refine wVv (wr := [(rO, .inl (E.2 2, 4, .inr (.inl (lA U)))), (rU, .inl (E.2 2, 4, .inr (.inl (lA V)))), (rT, .inl (E.2 1, 4, .inl (nA Te))), (rS, .inl (E.2 1, 8, .inl (nA Si))), (rB, .inl (E.2 1, 8, .inl (nA Ba))), (rP, .inl (E.2 1, 8, .inl (nA Sm))), (rG, .inl (E.2 1, 8, .inl (nA Gr))), (rV, .inl (E.2 1, 12, .inl To)), (rW, .inl (E.2 1, 12, .inl Bo))]) hE ⟨hx, hb, hml, hown, hts⟩ (c_X9_findFewest l E H.size m0 sh rO rU rT rg rS rB rP rG ab1_1 be1_1 mk rM md rN rL rZ rE rI hc rA rX (nI n) rV rW (nI th) rC rF rQ rK rR rD CC Fw (hs1) (hs4) (hr8) (hCb)) (cwV 0 hts gX9_heap_X9_findFewest rfl rfl rfl (by decide +kernel) ⟨Nat.le_of_ble_eq_true rfl, Nat.le_of_ble_eq_true rfl⟩) hP hD hS hA [1, 11, 0] [2, 3, 4, 5, 6, 7, 8, 9, 10] rfl rfl (by decide) (by decide) (by decide) 0 9 rfl rfl rfl hl.1 rfl (Nat.le_of_ble_eq_true rfl) dX9_heap_6 ⟨(Nat.zero_le _), (Nat.zero_le _)⟩ (fun u H locs hw hP hD hS => ?_)
  obtain ⟨F2_6, rfl⟩ : ∃ z, z = u := ⟨_, rfl⟩
  have hP : va_P E.1 vwCl [(rO, .inl (E.2 2, 4, .inr (.inl (lA U)))), (rU, .inl (E.2 2, 4, .inr (.inl (lA V)))), (rT, .inl (E.2 1, 4, .inl (nA Te))), (rS, .inl (E.2 1, 8, .inl (nA Si))), (rB, .inl (E.2 1, 8, .inl (nA Ba))), (rP, .inl (E.2 1, 8, .inl (nA Sm))), (rG, .inl (E.2 1, 8, .inl (nA Gr))), (rV, .inl (E.2 1, 12, .inl To)), (rW, .inl (E.2 1, 12, .inl Bo)), (m0, .inr (9, [.int (nI sh), .ref rO, .ref rU, .ref rT, .int (nI rg), .ref rS, .ref rB, .ref rP, .ref rG, .long ab1_1, .long be1_1, .int mk, .ref rM, .int md, .ref rN, .ref rL, .ref rZ, .ref rE, .ref rI, .int hc, .ref rA, .ref rX, .int (nI n), .ref rV, .ref rW, .int (nI th), .ref rC, .ref rF, .ref rQ, .ref rK, .ref rR, .ref rD])), (rC, .inl (E.2 1, 40, .inl (nA CC))), (rF, .inl (E.2 1, 163840, .inl (nA F2_6)))] H := hP
  have hD : va_D A [(rO, .inl (E.2 2, 4, .inr (.inl (lA U)))), (rU, .inl (E.2 2, 4, .inr (.inl (lA V)))), (rT, .inl (E.2 1, 4, .inl (nA Te))), (rS, .inl (E.2 1, 8, .inl (nA Si))), (rB, .inl (E.2 1, 8, .inl (nA Ba))), (rP, .inl (E.2 1, 8, .inl (nA Sm))), (rG, .inl (E.2 1, 8, .inl (nA Gr))), (rV, .inl (E.2 1, 12, .inl To)), (rW, .inl (E.2 1, 12, .inl Bo)), (m0, .inr (9, [.int (nI sh), .ref rO, .ref rU, .ref rT, .int (nI rg), .ref rS, .ref rB, .ref rP, .ref rG, .long ab1_1, .long be1_1, .int mk, .ref rM, .int md, .ref rN, .ref rL, .ref rZ, .ref rE, .ref rI, .int hc, .ref rA, .ref rX, .int (nI n), .ref rV, .ref rW, .int (nI th), .ref rC, .ref rF, .ref rQ, .ref rK, .ref rR, .ref rD])), (rC, .inl (E.2 1, 40, .inl (nA CC))), (rF, .inl (E.2 1, 163840, .inl (nA F2_6)))] := hD
  have hm_6 := hw
  refine lv_aload_n hx hb dX9_heap_9 rfl (lv_at hl 1 rfl) ?_
  refine va_get (D := E.1) (ci := 9) (v := .ref rF) (C := RX9) (T := TX9) (N := 32) hx hb hts hinX9 hown hK hP 9 rfl rfl 27 (by decide) (hts (.fieldLink RX9 73 "WornRingsModel" "fewest" "[I") (by decide +kernel)) (fun _ h9 => h9) rfl dX9_heap_10 ?_
  refine lv_iload_n hx hb dX9_heap_13 rfl (lv_at hl 0 rfl) ?_
  refine va_iald hx hb hK hP 11 1 rfl rfl (vp_in_nI (by omega) (by omega)) dX9_heap_14 ?_
  rw [nI_clamp (n := tg) (by omega)]
  refine W.eq (g2 := F0 m 15 ls [.int (nI (F2_6 tg))]) rfl ?_
  have hmn : F2_6 tg = (hpM (covM sh U V Te Si Ba Sm Gr To Bo th n) (2 * sh - 1 + 4 * rg)).length := by
    have h9 := hm_6 0 (by omega) tg htb
    rw [Nat.mul_zero, Nat.zero_add, Nat.sub_zero] at h9; rw [h9, hRl]
  obtain ⟨RR, hRR⟩ : ∃ z, z = hpM (covM sh U V Te Si Ba Sm Gr To Bo th n) (2 * sh - 1 + 4 * rg) := ⟨_, rfl⟩
  rw [hmn, ← hRR]
  rw [← hRR] at hmn hRl hR
  have hRl2 : RR.length ≤ 12 := by rw [hRl]; exact hR12
  refine lv_istore_n (lv' := [(3, .int (nI RR.length)), (2, .int (nI tg)), (0, .ref m0), (1, .int iv)]) hx hb dX9_heap_15 rfl hl (by decide) rfl (fun ls hl => ?_)
  refine lv_iload_n hx hb dX9_heap_16 rfl (lv_at hl 3 rfl) ?_
  refine lv_i2l (v := iv.toInt64) hx hb dX9_heap_17 (rfl) ?_
  refine lv_ldc2 (v := (-1)) hx hb hown (hts (.constantLong RX9 117 (-1)) (by decide +kernel)) dX9_heap_18 ?_
  refine lv_iload_n hx hb dX9_heap_21 rfl (lv_at hl 0 rfl) ?_
  refine lv_iconst (v := 1) hx hb dX9_heap_22 (by decide) ?_
  refine lv_isub hx hb dX9_heap_23 ?_
  refine lv_i2l (v := ((nI RR.length) - 1).toInt64) hx hb dX9_heap_24 (rfl) ?_
  refine rSi hE ⟨hx, hb, hml, hown, hts⟩ (c_X9_in l E iv.toInt64 (-1) (((nI RR.length) - 1).toInt64) ) (va_cwS 3 hts gX9_heap_X9_in rfl rfl rfl (by decide +kernel) ⟨Nat.le_of_ble_eq_true rfl, Nat.le_of_ble_eq_true rfl⟩) (hP.sub [] rfl) rfl hl.1 rfl (Nat.le_of_ble_eq_true rfl) dX9_heap_25 ⟨(Nat.zero_le _), (Nat.zero_le _)⟩ ?_
  rw [show fIn iv.toInt64 (-1) (((nI RR.length) - 1).toInt64) = fWi iv (-1) ((nI RR.length) - 1) from fIn_c (rfl) (by decide) (rfl)]
  refine lv_if_ne (tgt := 33) hx hb dX9_heap_28 (by decide) (fun c_28 => ?_) (fun c_28 => ?_)
  · have c_28 := fWi_1 c_28
    refine lv_iload_n hx hb dX9_heap_33 rfl (lv_at hl 3 rfl) ?_
    refine lv_if_ge (tgt := 39) hx hb dX9_heap_34 (by decide) (fun c_34 => ?_) (fun c_34 => ?_)
    · obtain ⟨i, hi9, rfl⟩ := ix_of (by omega) c_34 c_28.2
      refine lv_iconst (v := 0) hx hb dX9_heap_39 (by decide) ?_
      refine lv_istore (lv' := [(4, .int 0), (3, .int (nI RR.length)), (2, .int (nI tg)), (0, .ref m0), (1, .int (nI i))]) hx hb dX9_heap_40 hl (by decide) rfl (fun ls hl => ?_)
      refine lv_iconst (v := 0) hx hb dX9_heap_42 (by decide) ?_
      refine lv_istore (lv' := [(5, .int 0), (4, .int 0), (3, .int (nI RR.length)), (2, .int (nI tg)), (0, .ref m0), (1, .int (nI i))]) hx hb dX9_heap_43 hl (by decide) rfl (fun ls hl => ?_)
      refine (fun (lp45 : ∀ (n9 : Nat) (p9 : Nat) (left : Nat) (met : Nat) (ls : Array Slot), ((2 * sh - 1 + 4 * rg) - p9) < n9 → (p9 ≤ (2 * sh - 1 + 4 * rg)) → (left < 4096) → (met ≤ i) → (mdlF (pairC CC ((2 * sh - 1 + 4 * rg) - p9) p9) left = RR.drop met) → lv_has ls 7 [(0, .ref m0), (1, .int (nI i)), (2, .int (nI left)), (3, .int (nI RR.length)), (4, .int (nI met)), (5, .int (nI p9))] → W p l e _ s m _ below meth c H locs _ _ _ (F0 m 45 ls [])) => lp45 ((2 * sh - 1 + 4 * rg) + 1) 0 tg 0 _ (by omega) (by omega) (htb) (by omega) (by rw [Nat.sub_zero, List.drop_zero]; exact hR) (lv_sub hl [4, 5, 3, 2, 1, 0] rfl)) ?_
      intro n45
      induction n45 with
      | zero => intro p9 left met ls h0; exact absurd (by assumption) (Nat.not_lt_zero _)
      | succ n45 ih45 =>
        intro p9 left met ls hmu45 hp9 hlf hmt hrs hl
        refine lv_iload hx hb dX9_heap_45 (lv_at hl 5 rfl) ?_
        refine lv_aload_n hx hb dX9_heap_47 rfl (lv_at hl 0 rfl) ?_
        refine rVi hE ⟨hx, hb, hml, hown, hts⟩ (c_X9_parts l E m0 sh rO rU rT rg rS rB rP rG ab1_1 be1_1 mk rM md rN rL rZ rE rI hc rA rX (nI n) rV rW (nI th) rC rF rQ rK rR rD (hs1)) (cwV 0 hts gX9_heap_X9_parts rfl rfl rfl (by decide +kernel) ⟨Nat.le_of_ble_eq_true rfl, Nat.le_of_ble_eq_true rfl⟩) (hP.sub [9] rfl) 0 9 rfl rfl rfl hl.1 rfl (Nat.le_of_ble_eq_true rfl) dX9_heap_48 ⟨(Nat.zero_le _), (Nat.zero_le _)⟩ ?_
        refine lv_icmp_ge (tgt := 149) hx hb dX9_heap_51 (by decide) (fun c_51 => by exfalso; have c_51 : (2 * sh - 1 + 4 * rg) ≤ p9 := (nI_leI (a := 2 * sh - 1 + 4 * rg) (b := p9) (by omega) (by omega)).mp c_51; exact hp_end hrs (by omega) hmt hi9) (fun c_51 => ?_)
        have c_51 : ¬ (2 * sh - 1 + 4 * rg) ≤ p9 := fun h9 => c_51 ((nI_leI (a := 2 * sh - 1 + 4 * rg) (b := p9) (by omega) (by omega)).mpr h9)
        refine lv_aload_n hx hb dX9_heap_54 rfl (lv_at hl 0 rfl) ?_
        refine va_get (D := E.1) (ci := 9) (v := .ref rC) (C := RX9) (T := TX9) (N := 32) hx hb hts hinX9 hown hK hP 9 rfl rfl 26 (by decide) (hts (.fieldLink RX9 69 "WornRingsModel" "covers" "[I") (by decide +kernel)) (fun _ h9 => h9) rfl dX9_heap_55 ?_
        refine lv_iload hx hb dX9_heap_58 (lv_at hl 5 rfl) ?_
        refine va_iald hx hb hK hP 10 1 rfl rfl (vp_in_nI (by omega) (by omega)) dX9_heap_60 ?_
        rw [nI_clamp (n := p9) (by omega)]
        refine W.eq (g2 := F0 m 61 ls [.int (nI (CC p9))]) rfl ?_
        have hCp := hCb p9
        refine lv_if_eq (tgt := 111) hx hb dX9_heap_61 (by decide) (fun c_61 => ?_) (fun c_61 => ?_)
        · have c_61 : (CC p9) = 0 := (nI_eq (a := CC p9) (b := 0) (by omega) (by omega)).mp c_61
          refine lv_iconst (v := 0) hx hb dX9_heap_111 (by decide) ?_
          refine lv_istore (lv' := [(6, .int 0), (0, .ref m0), (1, .int (nI i)), (2, .int (nI left)), (3, .int (nI RR.length)), (4, .int (nI met)), (5, .int (nI p9))]) hx hb dX9_heap_112 hl (by decide) rfl (fun ls hl => ?_)
          refine lv_iload hx hb dX9_heap_114 (lv_at hl 0 rfl) ?_
          refine lv_if_eq (tgt := 143) hx hb dX9_heap_116 (by decide) (fun c_116 => ?_) (fun c_116 => by exfalso; revert c_116; decide)
          refine lv_iinc (v := nI (p9 + 1)) (lv' := [(5, .int (nI (p9 + 1))), (6, .int 0), (0, .ref m0), (1, .int (nI i)), (2, .int (nI left)), (3, .int (nI RR.length)), (4, .int (nI met))]) hx hb dX9_heap_143 hl (k := 6) rfl (nI_add p9 1) (by decide) rfl (fun ls hl => ?_)
          refine lv_goto (tgt := 45) hx hb dX9_heap_146 (by decide) ?_
          exact ih45 (p9 + 1) left met _ (by omega) (by omega) (hlf) (hmt) (by first | exact hp_skip hrs (by omega) (Or.inl c_61) | exact hp_skip hrs (by omega) (Or.inr etk)) (lv_sub hl [2, 3, 4, 5, 6, 0] rfl)
        · have c_61 : ¬ (CC p9) = 0 := fun h9 => c_61 ((nI_eq (a := CC p9) (b := 0) (by omega) (by omega)).mpr h9)
          refine lv_iconst (v := 1) hx hb dX9_heap_64 (by decide) ?_
          refine lv_aload_n hx hb dX9_heap_65 rfl (lv_at hl 0 rfl) ?_
          refine va_get (D := E.1) (ci := 9) (v := .ref rF) (C := RX9) (T := TX9) (N := 32) hx hb hts hinX9 hown hK hP 9 rfl rfl 27 (by decide) (hts (.fieldLink RX9 73 "WornRingsModel" "fewest" "[I") (by decide +kernel)) (fun _ h9 => h9) rfl dX9_heap_66 ?_
          refine lv_sipush (v := 4096) hx hb dX9_heap_69 (by decide) ?_
          refine lv_iload hx hb dX9_heap_72 (lv_at hl 5 rfl) ?_
          refine lv_iconst (v := 1) hx hb dX9_heap_74 (by decide) ?_
          refine lv_iadd hx hb dX9_heap_75 ?_
          rw [show ((nI p9) + (1 : Int32) : Int32) = nI (p9 + 1) from nI_add p9 1]
          refine lv_imul hx hb dX9_heap_76 ?_
          rw [show ((4096 : Int32) * (nI (p9 + 1)) : Int32) = nI (4096 * (p9 + 1)) from pk_mul 4096 (p9 + 1)]
          refine lv_iload_n hx hb dX9_heap_77 rfl (lv_at hl 2 rfl) ?_
          refine lv_aload_n hx hb dX9_heap_78 rfl (lv_at hl 0 rfl) ?_
          refine va_get (D := E.1) (ci := 9) (v := .ref rC) (C := RX9) (T := TX9) (N := 32) hx hb hts hinX9 hown hK hP 9 rfl rfl 26 (by decide) (hts (.fieldLink RX9 69 "WornRingsModel" "covers" "[I") (by decide +kernel)) (fun _ h9 => h9) rfl dX9_heap_79 ?_
          refine lv_iload hx hb dX9_heap_82 (lv_at hl 5 rfl) ?_
          refine va_iald hx hb hK hP 10 1 rfl rfl (vp_in_nI (by omega) (by omega)) dX9_heap_84 ?_
          rw [nI_clamp (n := p9) (by omega)]
          refine W.eq (g2 := F0 m 85 ls [.int (nI (CC p9)), .int (nI left), .int (nI (4096 * (p9 + 1))), .ref rF, .int 1]) rfl ?_
          refine lv_iconst (v := (-1)) hx hb dX9_heap_85 (by decide) ?_
          refine lv_ixor hx hb dX9_heap_86 ?_
          refine lv_iand hx hb dX9_heap_87 ?_
          rw [show ((nI left) &&& ((nI (CC p9)) ^^^ (-1)) : Int32) = nI (mdf left (CC p9)) from xx_diff _ _]
          have h7 := mdf_le left (CC p9)
          have w1 := hm_6 (p9 + 1) (by omega) (mdf left (CC p9)) (by omega)
          have b1 := Hf_1000 (sufC CC ((2 * sh - 1 + 4 * rg) - (p9 + 1)) (p9 + 1)) (mdf left (CC p9))
          have w2 := hm_6 p9 (by omega) left (by omega)
          have b2 := Hf_1000 (sufC CC ((2 * sh - 1 + 4 * rg) - p9) p9) left
          refine lv_iadd hx hb dX9_heap_88 ?_
          rw [show ((nI (4096 * (p9 + 1))) + (nI (mdf left (CC p9))) : Int32) = nI ((4096 * (p9 + 1)) + (mdf left (CC p9))) from nI_add (4096 * (p9 + 1)) (mdf left (CC p9))]
          refine va_iald hx hb hK hP 11 1 rfl rfl (vp_in_nI (by omega) (by omega)) dX9_heap_89 ?_
          rw [nI_clamp (n := (4096 * (p9 + 1)) + (mdf left (CC p9))) (by omega)]
          refine W.eq (g2 := F0 m 90 ls [.int (nI (F2_6 ((4096 * (p9 + 1)) + (mdf left (CC p9))))), .int 1]) rfl ?_
          refine lv_iadd hx hb dX9_heap_90 ?_
          rw [show ((1 : Int32) + (nI (F2_6 ((4096 * (p9 + 1)) + (mdf left (CC p9))))) : Int32) = nI (1 + (F2_6 ((4096 * (p9 + 1)) + (mdf left (CC p9))))) from nI_add 1 (F2_6 ((4096 * (p9 + 1)) + (mdf left (CC p9))))]
          refine lv_aload_n hx hb dX9_heap_91 rfl (lv_at hl 0 rfl) ?_
          refine va_get (D := E.1) (ci := 9) (v := .ref rF) (C := RX9) (T := TX9) (N := 32) hx hb hts hinX9 hown hK hP 9 rfl rfl 27 (by decide) (hts (.fieldLink RX9 73 "WornRingsModel" "fewest" "[I") (by decide +kernel)) (fun _ h9 => h9) rfl dX9_heap_92 ?_
          refine lv_sipush (v := 4096) hx hb dX9_heap_95 (by decide) ?_
          refine lv_iload hx hb dX9_heap_98 (lv_at hl 5 rfl) ?_
          refine lv_imul hx hb dX9_heap_100 ?_
          rw [show ((4096 : Int32) * (nI p9) : Int32) = nI (4096 * p9) from pk_mul 4096 p9]
          refine lv_iload_n hx hb dX9_heap_101 rfl (lv_at hl 2 rfl) ?_
          refine lv_iadd hx hb dX9_heap_102 ?_
          rw [show ((nI (4096 * p9)) + (nI left) : Int32) = nI ((4096 * p9) + left) from nI_add (4096 * p9) left]
          refine va_iald hx hb hK hP 11 1 rfl rfl (vp_in_nI (by omega) (by omega)) dX9_heap_103 ?_
          rw [nI_clamp (n := (4096 * p9) + left) (by omega)]
          refine W.eq (g2 := F0 m 104 ls [.int (nI (F2_6 ((4096 * p9) + left))), .int (nI (1 + (F2_6 ((4096 * (p9 + 1)) + (mdf left (CC p9))))))]) rfl ?_
          refine lv_icmp_ne (tgt := 111) hx hb dX9_heap_104 (by decide) (fun c_104 => ?_) (fun c_104 => ?_)
          · have c_104 : ¬ (1 + (F2_6 ((4096 * (p9 + 1)) + (mdf left (CC p9))))) = (F2_6 ((4096 * p9) + left)) := fun h9 => c_104 ((nI_eq (a := 1 + (F2_6 ((4096 * (p9 + 1)) + (mdf left (CC p9))))) (b := F2_6 ((4096 * p9) + left)) (by omega) (by omega)).mpr h9)
            have etk : ¬ 1 + Hf (sufC CC ((2 * sh - 1 + 4 * rg) - (p9 + 1)) (p9 + 1)) (mdf left (CC p9)) = Hf (sufC CC ((2 * sh - 1 + 4 * rg) - p9) p9) left := by rw [← w1, ← w2]; exact c_104
            refine lv_iconst (v := 0) hx hb dX9_heap_111 (by decide) ?_
            refine lv_istore (lv' := [(6, .int 0), (0, .ref m0), (1, .int (nI i)), (2, .int (nI left)), (3, .int (nI RR.length)), (4, .int (nI met)), (5, .int (nI p9))]) hx hb dX9_heap_112 hl (by decide) rfl (fun ls hl => ?_)
            refine lv_iload hx hb dX9_heap_114 (lv_at hl 0 rfl) ?_
            refine lv_if_eq (tgt := 143) hx hb dX9_heap_116 (by decide) (fun c_116 => ?_) (fun c_116 => by exfalso; revert c_116; decide)
            refine lv_iinc (v := nI (p9 + 1)) (lv' := [(5, .int (nI (p9 + 1))), (6, .int 0), (0, .ref m0), (1, .int (nI i)), (2, .int (nI left)), (3, .int (nI RR.length)), (4, .int (nI met))]) hx hb dX9_heap_143 hl (k := 6) rfl (nI_add p9 1) (by decide) rfl (fun ls hl => ?_)
            refine lv_goto (tgt := 45) hx hb dX9_heap_146 (by decide) ?_
            exact ih45 (p9 + 1) left met _ (by omega) (by omega) (hlf) (hmt) (by first | exact hp_skip hrs (by omega) (Or.inl c_61) | exact hp_skip hrs (by omega) (Or.inr etk)) (lv_sub hl [2, 3, 4, 5, 6, 0] rfl)
          · have c_104 : (1 + (F2_6 ((4096 * (p9 + 1)) + (mdf left (CC p9))))) = (F2_6 ((4096 * p9) + left)) := (nI_eq (a := 1 + (F2_6 ((4096 * (p9 + 1)) + (mdf left (CC p9))))) (b := F2_6 ((4096 * p9) + left)) (by omega) (by omega)).mp c_104
            have etk : 1 + Hf (sufC CC ((2 * sh - 1 + 4 * rg) - (p9 + 1)) (p9 + 1)) (mdf left (CC p9)) = Hf (sufC CC ((2 * sh - 1 + 4 * rg) - p9) p9) left := by rw [← w1, ← w2]; exact c_104
            refine lv_iconst (v := 1) hx hb dX9_heap_107 (by decide) ?_
            refine lv_goto (tgt := 112) hx hb dX9_heap_108 (by decide) ?_
            refine lv_istore (lv' := [(6, .int 1), (0, .ref m0), (1, .int (nI i)), (2, .int (nI left)), (3, .int (nI RR.length)), (4, .int (nI met)), (5, .int (nI p9))]) hx hb dX9_heap_112 hl (by decide) rfl (fun ls hl => ?_)
            refine lv_iload hx hb dX9_heap_114 (lv_at hl 0 rfl) ?_
            refine lv_if_eq (tgt := 143) hx hb dX9_heap_116 (by decide) (fun c_116 => by exfalso; revert c_116; decide) (fun c_116 => ?_)
            refine lv_iload hx hb dX9_heap_119 (lv_at hl 5 rfl) ?_
            refine lv_iload_n hx hb dX9_heap_121 rfl (lv_at hl 2 rfl) ?_
            refine lv_icmp_ne (tgt := 128) hx hb dX9_heap_122 (by decide) (fun c_122 => ?_) (fun c_122 => ?_)
            · have c_122 : ¬ met = i := fun h9 => c_122 ((nI_eq (a := met) (b := i) (by omega) (by omega)).mpr h9)
              refine lv_iinc (v := nI (met + 1)) (lv' := [(4, .int (nI (met + 1))), (6, .int 1), (0, .ref m0), (1, .int (nI i)), (2, .int (nI left)), (3, .int (nI RR.length)), (5, .int (nI p9))]) hx hb dX9_heap_128 hl (k := 5) rfl (nI_add met 1) (by decide) rfl (fun ls hl => ?_)
              refine lv_iload_n hx hb dX9_heap_131 rfl (lv_at hl 4 rfl) ?_
              refine lv_aload_n hx hb dX9_heap_132 rfl (lv_at hl 2 rfl) ?_
              refine va_get (D := E.1) (ci := 9) (v := .ref rC) (C := RX9) (T := TX9) (N := 32) hx hb hts hinX9 hown hK hP 9 rfl rfl 26 (by decide) (hts (.fieldLink RX9 69 "WornRingsModel" "covers" "[I") (by decide +kernel)) (fun _ h9 => h9) rfl dX9_heap_133 ?_
              refine lv_iload hx hb dX9_heap_136 (lv_at hl 6 rfl) ?_
              refine va_iald hx hb hK hP 10 1 rfl rfl (vp_in_nI (by omega) (by omega)) dX9_heap_138 ?_
              rw [nI_clamp (n := p9) (by omega)]
              refine W.eq (g2 := F0 m 139 ls [.int (nI (CC p9)), .int (nI left)]) rfl ?_
              refine lv_iconst (v := (-1)) hx hb dX9_heap_139 (by decide) ?_
              refine lv_ixor hx hb dX9_heap_140 ?_
              refine lv_iand hx hb dX9_heap_141 ?_
              rw [show ((nI left) &&& ((nI (CC p9)) ^^^ (-1)) : Int32) = nI (mdf left (CC p9)) from xx_diff _ _]
              refine lv_istore_n (lv' := [(2, .int (nI (mdf left (CC p9)))), (4, .int (nI (met + 1))), (6, .int 1), (0, .ref m0), (1, .int (nI i)), (3, .int (nI RR.length)), (5, .int (nI p9))]) hx hb dX9_heap_142 rfl hl (by decide) rfl (fun ls hl => ?_)
              refine lv_iinc (v := nI (p9 + 1)) (lv' := [(5, .int (nI (p9 + 1))), (2, .int (nI (mdf left (CC p9)))), (4, .int (nI (met + 1))), (6, .int 1), (0, .ref m0), (1, .int (nI i)), (3, .int (nI RR.length))]) hx hb dX9_heap_143 hl (k := 6) rfl (nI_add p9 1) (by decide) rfl (fun ls hl => ?_)
              refine lv_goto (tgt := 45) hx hb dX9_heap_146 (by decide) ?_
              exact ih45 (p9 + 1) (mdf left (CC p9)) (met + 1) _ (by omega) (by omega) (by have h9 := mdf_le left (CC p9); omega) (by omega) ((hp_take hrs (by omega) c_61 etk).2) (lv_sub hl [4, 5, 1, 6, 2, 0] rfl)
            · have c_122 : met = i := (nI_eq (a := met) (b := i) (by omega) (by omega)).mp c_122
              refine lv_iload hx hb dX9_heap_125 (lv_at hl 6 rfl) ?_
              have hP9 : va_P E.1 vwCl [(m0, .inr (9, [.int (nI sh), .ref rO, .ref rU, .ref rT, .int (nI rg), .ref rS, .ref rB, .ref rP, .ref rG, .long ab1_1, .long be1_1, .int mk, .ref rM, .int md, .ref rN, .ref rL, .ref rZ, .ref rE, .ref rI, .int hc, .ref rA, .ref rX, .int (nI n), .ref rV, .ref rW, .int (nI th), .ref rC, .ref rF, .ref rQ, .ref rK, .ref rR, .ref rD])), (rO, .inl (E.2 2, 4, .inr (.inl (lA U)))), (rU, .inl (E.2 2, 4, .inr (.inl (lA V)))), (rT, .inl (E.2 1, 4, .inl (nA Te))), (rS, .inl (E.2 1, 8, .inl (nA Si))), (rB, .inl (E.2 1, 8, .inl (nA Ba))), (rP, .inl (E.2 1, 8, .inl (nA Sm))), (rG, .inl (E.2 1, 8, .inl (nA Gr))), (rV, .inl (E.2 1, 12, .inl To)), (rW, .inl (E.2 1, 12, .inl Bo)), (rC, .inl (E.2 1, 40, .inl (nA CC))), (rF, .inl (E.2 1, 163840, .inl (nA F2_6)))] H := hP.sub [9, 0, 1, 2, 3, 4, 5, 6, 7, 8, 10, 11] rfl
              have hD9 : va_D A [(m0, .inr (9, [.int (nI sh), .ref rO, .ref rU, .ref rT, .int (nI rg), .ref rS, .ref rB, .ref rP, .ref rG, .long ab1_1, .long be1_1, .int mk, .ref rM, .int md, .ref rN, .ref rL, .ref rZ, .ref rE, .ref rI, .int hc, .ref rA, .ref rX, .int (nI n), .ref rV, .ref rW, .int (nI th), .ref rC, .ref rF, .ref rQ, .ref rK, .ref rR, .ref rD])), (rO, .inl (E.2 2, 4, .inr (.inl (lA U)))), (rU, .inl (E.2 2, 4, .inr (.inl (lA V)))), (rT, .inl (E.2 1, 4, .inl (nA Te))), (rS, .inl (E.2 1, 8, .inl (nA Si))), (rB, .inl (E.2 1, 8, .inl (nA Ba))), (rP, .inl (E.2 1, 8, .inl (nA Sm))), (rG, .inl (E.2 1, 8, .inl (nA Gr))), (rV, .inl (E.2 1, 12, .inl To)), (rW, .inl (E.2 1, 12, .inl Bo)), (rC, .inl (E.2 1, 40, .inl (nA CC))), (rF, .inl (E.2 1, 163840, .inl (nA F2_6)))] := hD.sub [9, 0, 1, 2, 3, 4, 5, 6, 7, 8, 10, 11] (by decide) rfl
              exact W.iret (v := nI p9) hx hb hr (fun t9 ht9 hW9 => ⟨⟨nI p9, (ab1_1, be1_1, CC, F2_6), rfl, ⟨by
      rw [fHp, if_neg (nI_m1 (by omega)), if_pos ⟨c_34, c_28.2⟩, nI_clamp (by omega), ← c_122, (hp_take hrs (by omega) c_61 etk).1], hCb⟩, ⟨by rw [ht9]; exact hP9, hD9⟩⟩, hS.F ht9⟩) hS.2.2 dX9_heap_127
    · refine lv_iload_n hx hb dX9_heap_37 rfl (lv_at hl 0 rfl) ?_
      have hP9 : va_P E.1 vwCl [(m0, .inr (9, [.int (nI sh), .ref rO, .ref rU, .ref rT, .int (nI rg), .ref rS, .ref rB, .ref rP, .ref rG, .long ab1_1, .long be1_1, .int mk, .ref rM, .int md, .ref rN, .ref rL, .ref rZ, .ref rE, .ref rI, .int hc, .ref rA, .ref rX, .int (nI n), .ref rV, .ref rW, .int (nI th), .ref rC, .ref rF, .ref rQ, .ref rK, .ref rR, .ref rD])), (rO, .inl (E.2 2, 4, .inr (.inl (lA U)))), (rU, .inl (E.2 2, 4, .inr (.inl (lA V)))), (rT, .inl (E.2 1, 4, .inl (nA Te))), (rS, .inl (E.2 1, 8, .inl (nA Si))), (rB, .inl (E.2 1, 8, .inl (nA Ba))), (rP, .inl (E.2 1, 8, .inl (nA Sm))), (rG, .inl (E.2 1, 8, .inl (nA Gr))), (rV, .inl (E.2 1, 12, .inl To)), (rW, .inl (E.2 1, 12, .inl Bo)), (rC, .inl (E.2 1, 40, .inl (nA CC))), (rF, .inl (E.2 1, 163840, .inl (nA F2_6)))] H := hP.sub [9, 0, 1, 2, 3, 4, 5, 6, 7, 8, 10, 11] rfl
      have hD9 : va_D A [(m0, .inr (9, [.int (nI sh), .ref rO, .ref rU, .ref rT, .int (nI rg), .ref rS, .ref rB, .ref rP, .ref rG, .long ab1_1, .long be1_1, .int mk, .ref rM, .int md, .ref rN, .ref rL, .ref rZ, .ref rE, .ref rI, .int hc, .ref rA, .ref rX, .int (nI n), .ref rV, .ref rW, .int (nI th), .ref rC, .ref rF, .ref rQ, .ref rK, .ref rR, .ref rD])), (rO, .inl (E.2 2, 4, .inr (.inl (lA U)))), (rU, .inl (E.2 2, 4, .inr (.inl (lA V)))), (rT, .inl (E.2 1, 4, .inl (nA Te))), (rS, .inl (E.2 1, 8, .inl (nA Si))), (rB, .inl (E.2 1, 8, .inl (nA Ba))), (rP, .inl (E.2 1, 8, .inl (nA Sm))), (rG, .inl (E.2 1, 8, .inl (nA Gr))), (rV, .inl (E.2 1, 12, .inl To)), (rW, .inl (E.2 1, 12, .inl Bo)), (rC, .inl (E.2 1, 40, .inl (nA CC))), (rF, .inl (E.2 1, 163840, .inl (nA F2_6)))] := hD.sub [9, 0, 1, 2, 3, 4, 5, 6, 7, 8, 10, 11] (by decide) rfl
      exact W.iret (v := nI RR.length) hx hb hr (fun t9 ht9 hW9 => ⟨⟨nI RR.length, (ab1_1, be1_1, CC, F2_6), rfl, ⟨by
      rw [fHp, if_pos (neg1 c_28.1 c_34)], hCb⟩, ⟨by rw [ht9]; exact hP9, hD9⟩⟩, hS.F ht9⟩) hS.2.2 dX9_heap_38
  · have c_28 := fWi_0 c_28
    refine lv_iconst (v := (-1)) hx hb dX9_heap_31 (by decide) ?_
    have hP9 : va_P E.1 vwCl [(m0, .inr (9, [.int (nI sh), .ref rO, .ref rU, .ref rT, .int (nI rg), .ref rS, .ref rB, .ref rP, .ref rG, .long ab1_1, .long be1_1, .int mk, .ref rM, .int md, .ref rN, .ref rL, .ref rZ, .ref rE, .ref rI, .int hc, .ref rA, .ref rX, .int (nI n), .ref rV, .ref rW, .int (nI th), .ref rC, .ref rF, .ref rQ, .ref rK, .ref rR, .ref rD])), (rO, .inl (E.2 2, 4, .inr (.inl (lA U)))), (rU, .inl (E.2 2, 4, .inr (.inl (lA V)))), (rT, .inl (E.2 1, 4, .inl (nA Te))), (rS, .inl (E.2 1, 8, .inl (nA Si))), (rB, .inl (E.2 1, 8, .inl (nA Ba))), (rP, .inl (E.2 1, 8, .inl (nA Sm))), (rG, .inl (E.2 1, 8, .inl (nA Gr))), (rV, .inl (E.2 1, 12, .inl To)), (rW, .inl (E.2 1, 12, .inl Bo)), (rC, .inl (E.2 1, 40, .inl (nA CC))), (rF, .inl (E.2 1, 163840, .inl (nA F2_6)))] H := hP.sub [9, 0, 1, 2, 3, 4, 5, 6, 7, 8, 10, 11] rfl
    have hD9 : va_D A [(m0, .inr (9, [.int (nI sh), .ref rO, .ref rU, .ref rT, .int (nI rg), .ref rS, .ref rB, .ref rP, .ref rG, .long ab1_1, .long be1_1, .int mk, .ref rM, .int md, .ref rN, .ref rL, .ref rZ, .ref rE, .ref rI, .int hc, .ref rA, .ref rX, .int (nI n), .ref rV, .ref rW, .int (nI th), .ref rC, .ref rF, .ref rQ, .ref rK, .ref rR, .ref rD])), (rO, .inl (E.2 2, 4, .inr (.inl (lA U)))), (rU, .inl (E.2 2, 4, .inr (.inl (lA V)))), (rT, .inl (E.2 1, 4, .inl (nA Te))), (rS, .inl (E.2 1, 8, .inl (nA Si))), (rB, .inl (E.2 1, 8, .inl (nA Ba))), (rP, .inl (E.2 1, 8, .inl (nA Sm))), (rG, .inl (E.2 1, 8, .inl (nA Gr))), (rV, .inl (E.2 1, 12, .inl To)), (rW, .inl (E.2 1, 12, .inl Bo)), (rC, .inl (E.2 1, 40, .inl (nA CC))), (rF, .inl (E.2 1, 163840, .inl (nA F2_6)))] := hD.sub [9, 0, 1, 2, 3, 4, 5, 6, 7, 8, 10, 11] (by decide) rfl
    exact W.iret (v := (-1)) hx hb hr (fun t9 ht9 hW9 => ⟨⟨(-1), (ab1_1, be1_1, CC, F2_6), rfl, ⟨by
      rw [fHp, if_neg (fun h9 => c_28 ⟨by rw [h9]; decide, by rw [h9]; exact m1_le _ (by omega)⟩), if_neg (fun h9 => c_28 ⟨Int32.le_trans (by decide) h9.1, h9.2⟩)], hCb⟩, ⟨by rw [ht9]; exact hP9, hD9⟩⟩, hS.F ht9⟩) hS.2.2 dX9_heap_32
