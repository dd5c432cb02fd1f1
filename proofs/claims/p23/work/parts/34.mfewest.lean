/-! the model: findFewest, heap -/
theorem row_nil {FF Cv : Nat → Nat} {N : Nat} (h : ∀ m, m < 4096 → FF (4096 * N + m) = if m = 0 then 0 else 1000) : RowOk FF Cv N N := by
  intro m hm; rw [Nat.sub_self, h m hm]; rfl
theorem m1_lt {q : Nat} (hq : q < 2 ^ 30) : nI q - 1 < 0 ↔ q = 0 := by
  have h2 : (nI q - 1).toInt = (q : Int) - 1 := pk_sub_toInt (a := q) (b := 1) hq (by omega)
  rw [Int32.lt_iff_toInt_lt, h2, show (0 : Int32).toInt = 0 from rfl]; omega

set_option maxHeartbeats 1000000 in
set_option maxRecDepth 100000 in
theorem c_X9_findFewest (l : Launch) (E : EnvT) (sz : Nat) (m0 : Nat) (sh : Nat) (rO : Nat) (rU : Nat) (rT : Nat) (rg : Nat) (rS : Nat) (rB : Nat) (rP : Nat) (rG : Nat) (ab0 : Int64) (be0 : Int64) (mk : Int32) (rM : Nat) (md : Int32) (rN : Nat) (rL : Nat) (rZ : Nat) (rE : Nat) (rI : Nat) (hc : Int32) (rA : Nat) (rX : Nat) (lnn : Int32) (rV : Nat) (rW : Nat) (sl : Int32) (rC : Nat) (rF : Nat) (rQ : Nat) (rK : Nat) (rR : Nat) (rD : Nat) (Cv : Nat → Nat) (Fw : Nat → Nat) (hs1 : 1 ≤ sh) (hs4 : sh ≤ 4) (hr8 : rg ≤ 8) (hCv : ∀ i, Cv i < 4096) : Met l yX9_findFewest wsX9_findFewest ({ frames := 1, cells := 0, slots := 0, locals := 20 }) (va_Pc [.ref m0] (PW E [(m0, .inr (9, [.int (nI sh), .ref rO, .ref rU, .ref rT, .int (nI rg), .ref rS, .ref rB, .ref rP, .ref rG, .long ab0, .long be0, .int mk, .ref rM, .int md, .ref rN, .ref rL, .ref rZ, .ref rE, .ref rI, .int hc, .ref rA, .ref rX, .int lnn, .ref rV, .ref rW, .int sl, .ref rC, .ref rF, .ref rQ, .ref rK, .ref rR, .ref rD])), (rC, .inl (E.2 1, 40, .inl (nA Cv))), (rF, .inl (E.2 1, 163840, .inl (nA Fw)))] sz)) (va_Qv (fun (uu : (Nat → Nat)) => ∀ p, p ≤ (2 * sh - 1 + 4 * rg) → RowOk uu Cv (2 * sh - 1 + 4 * rg) p) (fun (uu : (Nat → Nat)) t => BW E (va_A [(m0, .inr (9, [.int (nI sh), .ref rO, .ref rU, .ref rT, .int (nI rg), .ref rS, .ref rB, .ref rP, .ref rG, .long ab0, .long be0, .int mk, .ref rM, .int md, .ref rN, .ref rL, .ref rZ, .ref rE, .ref rI, .int hc, .ref rA, .ref rX, .int lnn, .ref rV, .ref rW, .int sl, .ref rC, .ref rF, .ref rQ, .ref rK, .ref rR, .ref rD])), (rC, .inl (E.2 1, 40, .inl (nA Cv))), (rF, .inl (E.2 1, 163840, .inl (nA Fw)))] sz) [(m0, .inr (9, [.int (nI sh), .ref rO, .ref rU, .ref rT, .int (nI rg), .ref rS, .ref rB, .ref rP, .ref rG, .long ab0, .long be0, .int mk, .ref rM, .int md, .ref rN, .ref rL, .ref rZ, .ref rE, .ref rI, .int hc, .ref rA, .ref rX, .int lnn, .ref rV, .ref rW, .int sl, .ref rC, .ref rF, .ref rQ, .ref rK, .ref rR, .ref rD])), (rC, .inl (E.2 1, 40, .inl (nA Cv))), (rF, .inl (E.2 1, 163840, .inl (nA uu)))] t) (va_A [(m0, .inr (9, [.int (nI sh), .ref rO, .ref rU, .ref rT, .int (nI rg), .ref rS, .ref rB, .ref rP, .ref rG, .long ab0, .long be0, .int mk, .ref rM, .int md, .ref rN, .ref rL, .ref rZ, .ref rE, .ref rI, .int hc, .ref rA, .ref rX, .int lnn, .ref rV, .ref rW, .int sl, .ref rC, .ref rF, .ref rQ, .ref rK, .ref rR, .ref rD])), (rC, .inl (E.2 1, 40, .inl (nA Cv))), (rF, .inl (E.2 1, 163840, .inl (nA Fw)))] sz)) 0 0 (va_A [(m0, .inr (9, [.int (nI sh), .ref rO, .ref rU, .ref rT, .int (nI rg), .ref rS, .ref rB, .ref rP, .ref rG, .long ab0, .long be0, .int mk, .ref rM, .int md, .ref rN, .ref rL, .ref rZ, .ref rE, .ref rI, .int hc, .ref rA, .ref rX, .int lnn, .ref rV, .ref rW, .int sl, .ref rC, .ref rF, .ref rQ, .ref rK, .ref rR, .ref rD])), (rC, .inl (E.2 1, 40, .inl (nA Cv))), (rF, .inl (E.2 1, 163840, .inl (nA Fw)))] sz) := by
  refine Met.ofW (cc := cX9_findFewest) (maxL := 6) (ret := none) (by decide +kernel) rfl ?_
  intro p e s m args below meth c s₁ B hml hv
  obtain ⟨rfl, hsz, hP, hE, hD0⟩ := hv
  have hx := B.exec
  have hb := B.bytes
  have hr := B.returns
  have hts := atoms_spec (ws := wsX9_findFewest) B.pre
  have hown : s.vm.findClass RX9 = some m.cls := findClass_of_methodNamed B.named
  have hlocks := B.notSynchronized
  have hK := hE.1
  have hNN := hE.2.1
  have hinX9 : ∀ w ∈ wsX90, w ∈ wsX9_findFewest := fun w h => List.mem_cons_of_mem _ (List.mem_append_right _ h)
  subst hsz
  have hD := hD0.self (sz := s.heap.size)
  generalize hAe : va_A [(m0, .inr (9, [.int (nI sh), .ref rO, .ref rU, .ref rT, .int (nI rg), .ref rS, .ref rB, .ref rP, .ref rG, .long ab0, .long be0, .int mk, .ref rM, .int md, .ref rN, .ref rL, .ref rZ, .ref rE, .ref rI, .int hc, .ref rA, .ref rX, .int lnn, .ref rV, .ref rW, .int sl, .ref rC, .ref rF, .ref rQ, .ref rK, .ref rR, .ref rD])), (rC, .inl (E.2 1, 40, .inl (nA Cv))), (rF, .inl (E.2 1, 163840, .inl (nA Fw)))] s.heap.size = A at hD ⊢
  have hA : ∀ q : Nat, s.heap.size ≤ q → A q := fun q h => by rw [← hAe]; exact Or.inr h
  have hS : va_S A s.heap s.heap [] := va_S.rf
  have hl := lv_entry ([.ref m0]) (n := 6) (Nat.le_of_ble_eq_true rfl)
  rw [lg_entry_eq]
  generalize (lg_sl ([.ref m0]) ++ List.replicate (6 - (lg_sl ([.ref m0])).length) Slot.unset).toArray = ls at hl ⊢
  have hl : lv_has ls 6 [(0, .ref m0)] := hl
  have hCv0 := hCv 0
  refine lv_aload_n hx hb dX9_findFewest_0 rfl (lv_at hl 0 rfl) ?_
  refine rVi hE ⟨hx, hb, hml, hown, hts⟩ (c_X9_parts l E m0 sh rO rU rT rg rS rB rP rG ab0 be0 mk rM md rN rL rZ rE rI hc rA rX lnn rV rW sl rC rF rQ rK rR rD (hs1)) (cwV 0 hts gX9_findFewest_X9_parts rfl rfl rfl (by decide +kernel) ⟨Nat.le_of_ble_eq_true rfl, Nat.le_of_ble_eq_true rfl⟩) (hP.sub [0] rfl) 0 9 rfl rfl rfl hl.1 rfl (Nat.le_of_ble_eq_true rfl) dX9_findFewest_1 ⟨(Nat.zero_le _), (Nat.zero_le _)⟩ ?_
  refine lv_istore_n (lv' := [(1, .int (nI (2 * sh - 1 + 4 * rg))), (0, .ref m0)]) hx hb dX9_findFewest_4 rfl hl (by decide) rfl (fun ls hl => ?_)
  refine lv_iconst (v := 0) hx hb dX9_findFewest_5 (by decide) ?_
  refine lv_istore_n (lv' := [(2, .int 0), (1, .int (nI (2 * sh - 1 + 4 * rg))), (0, .ref m0)]) hx hb dX9_findFewest_6 rfl hl (by decide) rfl (fun ls hl => ?_)
  refine (fun (lp7 : ∀ (n9 : Nat) (m9 : Nat) (FF : Nat → Nat) (H : Heap) (locs : List Loc) (ls : Array Slot), (4096 - m9) < n9 → (m9 ≤ 4096) → (∀ m, m < m9 → FF (4096 * (2 * sh - 1 + 4 * rg) + m) = if m = 0 then 0 else 1000) → va_P E.1 vwCl [(m0, .inr (9, [.int (nI sh), .ref rO, .ref rU, .ref rT, .int (nI rg), .ref rS, .ref rB, .ref rP, .ref rG, .long ab0, .long be0, .int mk, .ref rM, .int md, .ref rN, .ref rL, .ref rZ, .ref rE, .ref rI, .int hc, .ref rA, .ref rX, .int lnn, .ref rV, .ref rW, .int sl, .ref rC, .ref rF, .ref rQ, .ref rK, .ref rR, .ref rD])), (rC, .inl (E.2 1, 40, .inl (nA Cv))), (rF, .inl (E.2 1, 163840, .inl (nA FF)))] H → va_D A [(m0, .inr (9, [.int (nI sh), .ref rO, .ref rU, .ref rT, .int (nI rg), .ref rS, .ref rB, .ref rP, .ref rG, .long ab0, .long be0, .int mk, .ref rM, .int md, .ref rN, .ref rL, .ref rZ, .ref rE, .ref rI, .int hc, .ref rA, .ref rX, .int lnn, .ref rV, .ref rW, .int sl, .ref rC, .ref rF, .ref rQ, .ref rK, .ref rR, .ref rD])), (rC, .inl (E.2 1, 40, .inl (nA Cv))), (rF, .inl (E.2 1, 163840, .inl (nA FF)))] → va_S A s.heap H locs → lv_has ls 6 [(0, .ref m0), (1, .int (nI (2 * sh - 1 + 4 * rg))), (2, .int (nI m9))] → W p l e _ s m _ below meth c H locs _ _ _ (F0 m 7 ls [])) => lp7 (4097) 0 Fw _ _ _ (by omega) (by omega) (fun m h9 => absurd h9 (Nat.not_lt_zero m)) (hP.sub [0, 1, 2] rfl) (hD.sub [0, 1, 2] (by decide) rfl) hS (lv_sub hl [2, 1, 0] rfl)) ?_
  intro n7
  induction n7 with
  | zero => intro m9 FF H locs ls h0; exact absurd (by assumption) (Nat.not_lt_zero _)
  | succ n7 ih7 =>
    intro m9 FF H locs ls hmu7 hm9 hr7 hP hD hS hl
    refine lv_iload_n hx hb dX9_findFewest_7 rfl (lv_at hl 2 rfl) ?_
    refine lv_sipush (v := 4096) hx hb dX9_findFewest_8 (by decide) ?_
    refine lv_icmp_ge (tgt := 43) hx hb dX9_findFewest_11 (by decide) (fun c_11 => ?_) (fun c_11 => ?_)
    · have c_11 : 4096 ≤ m9 := (nI_leI (a := 4096) (b := m9) (by omega) (by omega)).mp c_11
      refine lv_iload_n hx hb dX9_findFewest_43 rfl (lv_at hl 1 rfl) ?_
      refine lv_iconst (v := 1) hx hb dX9_findFewest_44 (by decide) ?_
      refine lv_isub hx hb dX9_findFewest_45 ?_
      refine lv_istore_n (lv' := [(2, .int ((nI (2 * sh - 1 + 4 * rg)) - 1)), (0, .ref m0), (1, .int (nI (2 * sh - 1 + 4 * rg)))]) hx hb dX9_findFewest_46 rfl hl (by decide) rfl (fun ls hl => ?_)
      refine (fun (lp47 : ∀ (n9 : Nat) (q : Nat) (FF : Nat → Nat) (H : Heap) (locs : List Loc) (ls : Array Slot), q < n9 → (q ≤ (2 * sh - 1 + 4 * rg)) → (∀ p, q ≤ p → p ≤ (2 * sh - 1 + 4 * rg) → RowOk FF Cv (2 * sh - 1 + 4 * rg) p) → va_P E.1 vwCl [(m0, .inr (9, [.int (nI sh), .ref rO, .ref rU, .ref rT, .int (nI rg), .ref rS, .ref rB, .ref rP, .ref rG, .long ab0, .long be0, .int mk, .ref rM, .int md, .ref rN, .ref rL, .ref rZ, .ref rE, .ref rI, .int hc, .ref rA, .ref rX, .int lnn, .ref rV, .ref rW, .int sl, .ref rC, .ref rF, .ref rQ, .ref rK, .ref rR, .ref rD])), (rC, .inl (E.2 1, 40, .inl (nA Cv))), (rF, .inl (E.2 1, 163840, .inl (nA FF)))] H → va_D A [(m0, .inr (9, [.int (nI sh), .ref rO, .ref rU, .ref rT, .int (nI rg), .ref rS, .ref rB, .ref rP, .ref rG, .long ab0, .long be0, .int mk, .ref rM, .int md, .ref rN, .ref rL, .ref rZ, .ref rE, .ref rI, .int hc, .ref rA, .ref rX, .int lnn, .ref rV, .ref rW, .int sl, .ref rC, .ref rF, .ref rQ, .ref rK, .ref rR, .ref rD])), (rC, .inl (E.2 1, 40, .inl (nA Cv))), (rF, .inl (E.2 1, 163840, .inl (nA FF)))] → va_S A s.heap H locs → lv_has ls 6 [(0, .ref m0), (1, .int (nI (2 * sh - 1 + 4 * rg))), (2, .int (nI q - 1))] → W p l e _ s m _ below meth c H locs _ _ _ (F0 m 47 ls [])) => lp47 ((2 * sh - 1 + 4 * rg) + 1) (2 * sh - 1 + 4 * rg) FF _ _ _ (by omega) (Nat.le_refl _) (fun p h9 h8 => by
      have ep : p = (2 * sh - 1 + 4 * rg) := Nat.le_antisymm h8 h9
      subst ep; exact row_nil (fun m hm => hr7 m (by omega))) (hP.sub [0, 1, 2] rfl) (hD.sub [0, 1, 2] (by decide) rfl) hS (lv_sub hl [1, 2, 0] rfl)) ?_
      intro n47
      induction n47 with
      | zero => intro q FF H locs ls h0; exact absurd (by assumption) (Nat.not_lt_zero _)
      | succ n47 ih47 =>
        intro q FF H locs ls hmu47 hq hrw hP hD hS hl
        refine lv_iload_n hx hb dX9_findFewest_47 rfl (lv_at hl 2 rfl) ?_
        refine lv_if_lt (tgt := 156) hx hb dX9_findFewest_48 (by decide) (fun c_48 => ?_) (fun c_48 => ?_)
        · have hP9 : va_P E.1 vwCl [(m0, .inr (9, [.int (nI sh), .ref rO, .ref rU, .ref rT, .int (nI rg), .ref rS, .ref rB, .ref rP, .ref rG, .long ab0, .long be0, .int mk, .ref rM, .int md, .ref rN, .ref rL, .ref rZ, .ref rE, .ref rI, .int hc, .ref rA, .ref rX, .int lnn, .ref rV, .ref rW, .int sl, .ref rC, .ref rF, .ref rQ, .ref rK, .ref rR, .ref rD])), (rC, .inl (E.2 1, 40, .inl (nA Cv))), (rF, .inl (E.2 1, 163840, .inl (nA FF)))] H := hP.sub [0, 1, 2] rfl
          have hD9 : va_D A [(m0, .inr (9, [.int (nI sh), .ref rO, .ref rU, .ref rT, .int (nI rg), .ref rS, .ref rB, .ref rP, .ref rG, .long ab0, .long be0, .int mk, .ref rM, .int md, .ref rN, .ref rL, .ref rZ, .ref rE, .ref rI, .int hc, .ref rA, .ref rX, .int lnn, .ref rV, .ref rW, .int sl, .ref rC, .ref rF, .ref rQ, .ref rK, .ref rR, .ref rD])), (rC, .inl (E.2 1, 40, .inl (nA Cv))), (rF, .inl (E.2 1, 163840, .inl (nA FF)))] := hD.sub [0, 1, 2] (by decide) rfl
          exact W.vret hx hb hr (fun t9 ht9 hW9 => ⟨⟨(FF), rfl, fun p h9 => hrw p (by have h8 := (m1_lt (q := q) (by omega)).mp c_48; omega) h9, ⟨by rw [ht9]; exact hP9, hD9⟩⟩, hS.F ht9⟩) hS.2.2 dX9_findFewest_156
        · have hq1 : ¬ q = 0 := fun h9 => c_48 ((m1_lt (by omega)).mpr h9)
          rw [show nI q - 1 = nI (q - 1) from pk_sub (a := q) (b := 1) (by omega)] at hl
          have hl : lv_has ls 6 [(0, .ref m0), (1, .int (nI (2 * sh - 1 + 4 * rg))), (2, .int (nI (q - 1)))] := hl
          refine lv_iconst (v := 0) hx hb dX9_findFewest_51 (by decide) ?_
          refine lv_istore_n (lv' := [(3, .int 0), (0, .ref m0), (1, .int (nI (2 * sh - 1 + 4 * rg))), (2, .int (nI (q - 1)))]) hx hb dX9_findFewest_52 rfl hl (by decide) rfl (fun ls hl => ?_)
          refine (fun (lp53 : ∀ (n9 : Nat) (m9 : Nat) (FF : Nat → Nat) (H : Heap) (locs : List Loc) (ls : Array Slot), (4096 - m9) < n9 → (m9 ≤ 4096) → (∀ p, q ≤ p → p ≤ (2 * sh - 1 + 4 * rg) → RowOk FF Cv (2 * sh - 1 + 4 * rg) p) → (∀ m, m < m9 → FF (4096 * (q - 1) + m) = Hf (sufC Cv ((2 * sh - 1 + 4 * rg) - (q - 1)) (q - 1)) m) → va_P E.1 vwCl [(m0, .inr (9, [.int (nI sh), .ref rO, .ref rU, .ref rT, .int (nI rg), .ref rS, .ref rB, .ref rP, .ref rG, .long ab0, .long be0, .int mk, .ref rM, .int md, .ref rN, .ref rL, .ref rZ, .ref rE, .ref rI, .int hc, .ref rA, .ref rX, .int lnn, .ref rV, .ref rW, .int sl, .ref rC, .ref rF, .ref rQ, .ref rK, .ref rR, .ref rD])), (rC, .inl (E.2 1, 40, .inl (nA Cv))), (rF, .inl (E.2 1, 163840, .inl (nA FF)))] H → va_D A [(m0, .inr (9, [.int (nI sh), .ref rO, .ref rU, .ref rT, .int (nI rg), .ref rS, .ref rB, .ref rP, .ref rG, .long ab0, .long be0, .int mk, .ref rM, .int md, .ref rN, .ref rL, .ref rZ, .ref rE, .ref rI, .int hc, .ref rA, .ref rX, .int lnn, .ref rV, .ref rW, .int sl, .ref rC, .ref rF, .ref rQ, .ref rK, .ref rR, .ref rD])), (rC, .inl (E.2 1, 40, .inl (nA Cv))), (rF, .inl (E.2 1, 163840, .inl (nA FF)))] → va_S A s.heap H locs → lv_has ls 6 [(0, .ref m0), (1, .int (nI (2 * sh - 1 + 4 * rg))), (2, .int (nI (q - 1))), (3, .int (nI m9))] → W p l e _ s m _ below meth c H locs _ _ _ (F0 m 53 ls [])) => lp53 (4097) 0 FF _ _ _ (by omega) (by omega) (hrw) (fun m h9 => absurd h9 (Nat.not_lt_zero m)) (hP.sub [0, 1, 2] rfl) (hD.sub [0, 1, 2] (by decide) rfl) hS (lv_sub hl [1, 2, 3, 0] rfl)) ?_
          intro n53
          induction n53 with
          | zero => intro m9 FF H locs ls h0; exact absurd (by assumption) (Nat.not_lt_zero _)
          | succ n53 ih53 =>
            intro m9 FF H locs ls hmu53 hm9 hrw hr5 hP hD hS hl
            have hb1 := Hf_1000 (sufC Cv ((2 * sh - 1 + 4 * rg) - (q - 1 + 1)) (q - 1 + 1)) m9
            refine lv_iload_n hx hb dX9_findFewest_53 rfl (lv_at hl 3 rfl) ?_
            refine lv_sipush (v := 4096) hx hb dX9_findFewest_54 (by decide) ?_
            refine lv_icmp_ge (tgt := 150) hx hb dX9_findFewest_57 (by decide) (fun c_57 => ?_) (fun c_57 => ?_)
            · have c_57 : 4096 ≤ m9 := (nI_leI (a := 4096) (b := m9) (by omega) (by omega)).mp c_57
              refine lv_iinc (v := (nI (q - 1)) + (-1)) (lv' := [(2, .int ((nI (q - 1)) + (-1))), (0, .ref m0), (1, .int (nI (2 * sh - 1 + 4 * rg))), (3, .int (nI m9))]) hx hb dX9_findFewest_150 hl (k := 2) rfl (rfl) (by decide) rfl (fun ls hl => ?_)
              refine lv_goto (tgt := 47) hx hb dX9_findFewest_153 (by decide) ?_
              exact ih47 (q - 1) FF _ _ _ (by omega) (by omega) (fun p h9 h8 => by
        rcases Nat.lt_or_ge p q with g | g
        · have ep : p = q - 1 := by omega
          subst ep; intro m hm; exact hr5 m (by omega)
        · exact hrw p g h8) (hP.sub [0, 1, 2] rfl) (hD.sub [0, 1, 2] (by decide) rfl) hS (by rw [Int32.sub_eq_add_neg]; exact lv_sub hl [1, 2, 0] rfl)
            · have c_57 : ¬ 4096 ≤ m9 := fun h9 => c_57 ((nI_leI (a := 4096) (b := m9) (by omega) (by omega)).mpr h9)
              refine lv_aload_n hx hb dX9_findFewest_60 rfl (lv_at hl 0 rfl) ?_
              refine va_get (D := E.1) (ci := 9) (v := .ref rF) (C := RX9) (T := TX9) (N := 32) hx hb hts hinX9 hown hK hP 0 rfl rfl 27 (by decide) (hts (.fieldLink RX9 73 "WornRingsModel" "fewest" "[I") (by decide +kernel)) (fun _ h9 => h9) rfl dX9_findFewest_61 ?_
              refine lv_sipush (v := 4096) hx hb dX9_findFewest_64 (by decide) ?_
              refine lv_iload_n hx hb dX9_findFewest_67 rfl (lv_at hl 2 rfl) ?_
              refine lv_iconst (v := 1) hx hb dX9_findFewest_68 (by decide) ?_
              refine lv_iadd hx hb dX9_findFewest_69 ?_
              rw [show ((nI (q - 1)) + (1 : Int32) : Int32) = nI ((q - 1) + 1) from nI_add (q - 1) 1]
              refine lv_imul hx hb dX9_findFewest_70 ?_
              rw [show ((4096 : Int32) * (nI ((q - 1) + 1)) : Int32) = nI (4096 * ((q - 1) + 1)) from pk_mul 4096 ((q - 1) + 1)]
              refine lv_iload_n hx hb dX9_findFewest_71 rfl (lv_at hl 3 rfl) ?_
              refine lv_iadd hx hb dX9_findFewest_72 ?_
              rw [show ((nI (4096 * ((q - 1) + 1))) + (nI m9) : Int32) = nI ((4096 * ((q - 1) + 1)) + m9) from nI_add (4096 * ((q - 1) + 1)) m9]
              refine va_iald hx hb hK hP 2 1 rfl rfl (vp_in_nI (by omega) (by omega)) dX9_findFewest_73 ?_
              rw [nI_clamp (n := (4096 * ((q - 1) + 1)) + m9) (by omega)]
              refine W.eq (g2 := F0 m 74 ls [.int (nI (FF ((4096 * ((q - 1) + 1)) + m9)))]) rfl ?_
              have hr9 := hrw (q - 1 + 1) (by omega) (by omega) m9 (by omega)
              refine lv_istore (lv' := [(4, .int (nI (FF ((4096 * ((q - 1) + 1)) + m9)))), (0, .ref m0), (1, .int (nI (2 * sh - 1 + 4 * rg))), (2, .int (nI (q - 1))), (3, .int (nI m9))]) hx hb dX9_findFewest_74 hl (by decide) rfl (fun ls hl => ?_)
              refine lv_aload_n hx hb dX9_findFewest_76 rfl (lv_at hl 1 rfl) ?_
              refine va_get (D := E.1) (ci := 9) (v := .ref rC) (C := RX9) (T := TX9) (N := 32) hx hb hts hinX9 hown hK hP 0 rfl rfl 26 (by decide) (hts (.fieldLink RX9 69 "WornRingsModel" "covers" "[I") (by decide +kernel)) (fun _ h9 => h9) rfl dX9_findFewest_77 ?_
              refine lv_iload_n hx hb dX9_findFewest_80 rfl (lv_at hl 3 rfl) ?_
              refine va_iald hx hb hK hP 1 1 rfl rfl (vp_in_nI (by omega) (by omega)) dX9_findFewest_81 ?_
              rw [nI_clamp (n := q - 1) (by omega)]
              refine W.eq (g2 := F0 m 82 ls [.int (nI (Cv (q - 1)))]) rfl ?_
              have hCq := hCv (q - 1)
              refine lv_if_ne (tgt := 91) hx hb dX9_findFewest_82 (by decide) (fun c_82 => ?_) (fun c_82 => ?_)
              · have c_82 : ¬ (Cv (q - 1)) = 0 := fun h9 => c_82 ((nI_eq (a := Cv (q - 1)) (b := 0) (by omega) (by omega)).mpr h9)
                refine lv_iconst (v := 1) hx hb dX9_findFewest_91 (by decide) ?_
                refine lv_aload_n hx hb dX9_findFewest_92 rfl (lv_at hl 1 rfl) ?_
                refine va_get (D := E.1) (ci := 9) (v := .ref rF) (C := RX9) (T := TX9) (N := 32) hx hb hts hinX9 hown hK hP 0 rfl rfl 27 (by decide) (hts (.fieldLink RX9 73 "WornRingsModel" "fewest" "[I") (by decide +kernel)) (fun _ h9 => h9) rfl dX9_findFewest_93 ?_
                refine lv_sipush (v := 4096) hx hb dX9_findFewest_96 (by decide) ?_
                refine lv_iload_n hx hb dX9_findFewest_99 rfl (lv_at hl 3 rfl) ?_
                refine lv_iconst (v := 1) hx hb dX9_findFewest_100 (by decide) ?_
                refine lv_iadd hx hb dX9_findFewest_101 ?_
                rw [show ((nI (q - 1)) + (1 : Int32) : Int32) = nI ((q - 1) + 1) from nI_add (q - 1) 1]
                refine lv_imul hx hb dX9_findFewest_102 ?_
                rw [show ((4096 : Int32) * (nI ((q - 1) + 1)) : Int32) = nI (4096 * ((q - 1) + 1)) from pk_mul 4096 ((q - 1) + 1)]
                refine lv_iload_n hx hb dX9_findFewest_103 rfl (lv_at hl 4 rfl) ?_
                refine lv_aload_n hx hb dX9_findFewest_104 rfl (lv_at hl 1 rfl) ?_
                refine va_get (D := E.1) (ci := 9) (v := .ref rC) (C := RX9) (T := TX9) (N := 32) hx hb hts hinX9 hown hK hP 0 rfl rfl 26 (by decide) (hts (.fieldLink RX9 69 "WornRingsModel" "covers" "[I") (by decide +kernel)) (fun _ h9 => h9) rfl dX9_findFewest_105 ?_
                refine lv_iload_n hx hb dX9_findFewest_108 rfl (lv_at hl 3 rfl) ?_
                refine va_iald hx hb hK hP 1 1 rfl rfl (vp_in_nI (by omega) (by omega)) dX9_findFewest_109 ?_
                rw [nI_clamp (n := q - 1) (by omega)]
                refine W.eq (g2 := F0 m 110 ls [.int (nI (Cv (q - 1))), .int (nI m9), .int (nI (4096 * ((q - 1) + 1))), .ref rF, .int 1]) rfl ?_
                refine lv_iconst (v := (-1)) hx hb dX9_findFewest_110 (by decide) ?_
                refine lv_ixor hx hb dX9_findFewest_111 ?_
                refine lv_iand hx hb dX9_findFewest_112 ?_
                rw [show ((nI m9) &&& ((nI (Cv (q - 1))) ^^^ (-1)) : Int32) = nI (mdf m9 (Cv (q - 1))) from xx_diff _ _]
                have h7 := mdf_le m9 (Cv (q - 1))
                have hr8b := hrw (q - 1 + 1) (by omega) (by omega) (mdf m9 (Cv (q - 1))) (by omega)
                have hb2 := Hf_1000 (sufC Cv ((2 * sh - 1 + 4 * rg) - (q - 1 + 1)) (q - 1 + 1)) (mdf m9 (Cv (q - 1)))
                refine lv_iadd hx hb dX9_findFewest_113 ?_
                rw [show ((nI (4096 * ((q - 1) + 1))) + (nI (mdf m9 (Cv (q - 1)))) : Int32) = nI ((4096 * ((q - 1) + 1)) + (mdf m9 (Cv (q - 1)))) from nI_add (4096 * ((q - 1) + 1)) (mdf m9 (Cv (q - 1)))]
                refine va_iald hx hb hK hP 2 1 rfl rfl (vp_in_nI (by omega) (by omega)) dX9_findFewest_114 ?_
                rw [nI_clamp (n := (4096 * ((q - 1) + 1)) + (mdf m9 (Cv (q - 1)))) (by omega)]
                refine W.eq (g2 := F0 m 115 ls [.int (nI (FF ((4096 * ((q - 1) + 1)) + (mdf m9 (Cv (q - 1)))))), .int 1]) rfl ?_
                refine lv_iadd hx hb dX9_findFewest_115 ?_
                rw [show ((1 : Int32) + (nI (FF ((4096 * ((q - 1) + 1)) + (mdf m9 (Cv (q - 1)))))) : Int32) = nI (1 + (FF ((4096 * ((q - 1) + 1)) + (mdf m9 (Cv (q - 1)))))) from nI_add 1 (FF ((4096 * ((q - 1) + 1)) + (mdf m9 (Cv (q - 1)))))]
                refine lv_istore (lv' := [(5, .int (nI (1 + (FF ((4096 * ((q - 1) + 1)) + (mdf m9 (Cv (q - 1)))))))), (4, .int (nI (FF ((4096 * ((q - 1) + 1)) + m9)))), (0, .ref m0), (1, .int (nI (2 * sh - 1 + 4 * rg))), (2, .int (nI (q - 1))), (3, .int (nI m9))]) hx hb dX9_findFewest_116 hl (by decide) rfl (fun ls hl => ?_)
                refine lv_aload_n hx hb dX9_findFewest_118 rfl (lv_at hl 2 rfl) ?_
                refine va_get (D := E.1) (ci := 9) (v := .ref rF) (C := RX9) (T := TX9) (N := 32) hx hb hts hinX9 hown hK hP 0 rfl rfl 27 (by decide) (hts (.fieldLink RX9 73 "WornRingsModel" "fewest" "[I") (by decide +kernel)) (fun _ h9 => h9) rfl dX9_findFewest_119 ?_
                refine lv_sipush (v := 4096) hx hb dX9_findFewest_122 (by decide) ?_
                refine lv_iload_n hx hb dX9_findFewest_125 rfl (lv_at hl 4 rfl) ?_
                refine lv_imul hx hb dX9_findFewest_126 ?_
                rw [show ((4096 : Int32) * (nI (q - 1)) : Int32) = nI (4096 * (q - 1)) from pk_mul 4096 (q - 1)]
                refine lv_iload_n hx hb dX9_findFewest_127 rfl (lv_at hl 5 rfl) ?_
                refine lv_iadd hx hb dX9_findFewest_128 ?_
                rw [show ((nI (4096 * (q - 1))) + (nI m9) : Int32) = nI ((4096 * (q - 1)) + m9) from nI_add (4096 * (q - 1)) m9]
                refine lv_iload hx hb dX9_findFewest_129 (lv_at hl 0 rfl) ?_
                refine lv_iload hx hb dX9_findFewest_131 (lv_at hl 1 rfl) ?_
                refine lv_icmp_ge (tgt := 141) hx hb dX9_findFewest_133 (by decide) (fun c_133 => ?_) (fun c_133 => ?_)
                · have c_133 : (FF ((4096 * ((q - 1) + 1)) + m9)) ≤ (1 + (FF ((4096 * ((q - 1) + 1)) + (mdf m9 (Cv (q - 1)))))) := (nI_leI (a := FF ((4096 * ((q - 1) + 1)) + m9)) (b := 1 + (FF ((4096 * ((q - 1) + 1)) + (mdf m9 (Cv (q - 1)))))) (by omega) (by omega)).mp c_133
                  have e133 : FF (4096 * (q - 1 + 1) + m9) = Hf (Cv (q - 1) :: sufC Cv ((2 * sh - 1 + 4 * rg) - (q - 1 + 1)) (q - 1 + 1)) m9 := by
                    rw [hr9]; first | exact (hf_0 c_82).symm | exact (hf_hi (by omega)).symm
                  refine lv_iload hx hb dX9_findFewest_141 (lv_at hl 1 rfl) ?_
                  refine va_iast hx hb hK hP hD hS 2 1 rfl rfl (vp_in_nI (by omega) (by omega)) dX9_findFewest_143 (fun H locs hP hD hS => ?_)
                  rw [nI_clamp (n := (4096 * (q - 1)) + m9) (by omega)] at hP hD
                  rw [show upd (nA FF) ((4096 * (q - 1)) + m9) (nI (FF ((4096 * ((q - 1) + 1)) + m9))) = nA (updN FF ((4096 * (q - 1)) + m9) (FF ((4096 * ((q - 1) + 1)) + m9))) from upd_nA _ _ _] at hP hD
                  have hP : va_P E.1 vwCl [(m0, .inr (9, [.int (nI sh), .ref rO, .ref rU, .ref rT, .int (nI rg), .ref rS, .ref rB, .ref rP, .ref rG, .long ab0, .long be0, .int mk, .ref rM, .int md, .ref rN, .ref rL, .ref rZ, .ref rE, .ref rI, .int hc, .ref rA, .ref rX, .int lnn, .ref rV, .ref rW, .int sl, .ref rC, .ref rF, .ref rQ, .ref rK, .ref rR, .ref rD])), (rC, .inl (E.2 1, 40, .inl (nA Cv))), (rF, .inl (E.2 1, 163840, .inl (nA (updN FF ((4096 * (q - 1)) + m9) (FF ((4096 * ((q - 1) + 1)) + m9))))))] H := hP
                  have hD : va_D A [(m0, .inr (9, [.int (nI sh), .ref rO, .ref rU, .ref rT, .int (nI rg), .ref rS, .ref rB, .ref rP, .ref rG, .long ab0, .long be0, .int mk, .ref rM, .int md, .ref rN, .ref rL, .ref rZ, .ref rE, .ref rI, .int hc, .ref rA, .ref rX, .int lnn, .ref rV, .ref rW, .int sl, .ref rC, .ref rF, .ref rQ, .ref rK, .ref rR, .ref rD])), (rC, .inl (E.2 1, 40, .inl (nA Cv))), (rF, .inl (E.2 1, 163840, .inl (nA (updN FF ((4096 * (q - 1)) + m9) (FF ((4096 * ((q - 1) + 1)) + m9))))))] := hD
                  refine lv_iinc (v := nI (m9 + 1)) (lv' := [(3, .int (nI (m9 + 1))), (5, .int (nI (1 + (FF ((4096 * ((q - 1) + 1)) + (mdf m9 (Cv (q - 1)))))))), (4, .int (nI (FF ((4096 * ((q - 1) + 1)) + m9)))), (0, .ref m0), (1, .int (nI (2 * sh - 1 + 4 * rg))), (2, .int (nI (q - 1)))]) hx hb dX9_findFewest_144 hl (k := 5) rfl (nI_add m9 1) (by decide) rfl (fun ls hl => ?_)
                  refine lv_goto (tgt := 53) hx hb dX9_findFewest_147 (by decide) ?_
                  exact ih53 (m9 + 1) (updN FF ((4096 * (q - 1)) + m9) (FF ((4096 * ((q - 1) + 1)) + m9))) _ _ _ (by omega) (by omega) (fun p hp1 hp2 => by
        intro m hm; rw [updN_n (by omega)]; exact hrw p hp1 hp2 m hm) (fun m h9 => by
        rcases Nat.lt_or_ge m m9 with g | g
        · rw [updN_n (by omega)]; exact hr5 m g
        · have em : m = m9 := by omega
          subst em; rw [updN_s, suf_s (by omega)]
          first | exact e133 | (exfalso; omega)) (hP.sub [0, 1, 2] rfl) (hD.sub [0, 1, 2] (by decide) rfl) hS (lv_sub hl [3, 4, 5, 0] rfl)
                · have c_133 : ¬ (FF ((4096 * ((q - 1) + 1)) + m9)) ≤ (1 + (FF ((4096 * ((q - 1) + 1)) + (mdf m9 (Cv (q - 1)))))) := fun h9 => c_133 ((nI_leI (a := FF ((4096 * ((q - 1) + 1)) + m9)) (b := 1 + (FF ((4096 * ((q - 1) + 1)) + (mdf m9 (Cv (q - 1)))))) (by omega) (by omega)).mpr h9)
                  have e133 : 1 + FF (4096 * (q - 1 + 1) + mdf m9 (Cv (q - 1))) = Hf (Cv (q - 1) :: sufC Cv ((2 * sh - 1 + 4 * rg) - (q - 1 + 1)) (q - 1 + 1)) m9 := by
                    first | (exfalso; omega) | (rw [hr8b]; exact (hf_lo (by omega)).symm)
                  refine lv_iload hx hb dX9_findFewest_136 (lv_at hl 0 rfl) ?_
                  refine lv_goto (tgt := 143) hx hb dX9_findFewest_138 (by decide) ?_
                  refine va_iast hx hb hK hP hD hS 2 1 rfl rfl (vp_in_nI (by omega) (by omega)) dX9_findFewest_143 (fun H locs hP hD hS => ?_)
                  rw [nI_clamp (n := (4096 * (q - 1)) + m9) (by omega)] at hP hD
                  rw [show upd (nA FF) ((4096 * (q - 1)) + m9) (nI (1 + (FF ((4096 * ((q - 1) + 1)) + (mdf m9 (Cv (q - 1))))))) = nA (updN FF ((4096 * (q - 1)) + m9) (1 + (FF ((4096 * ((q - 1) + 1)) + (mdf m9 (Cv (q - 1))))))) from upd_nA _ _ _] at hP hD
                  have hP : va_P E.1 vwCl [(m0, .inr (9, [.int (nI sh), .ref rO, .ref rU, .ref rT, .int (nI rg), .ref rS, .ref rB, .ref rP, .ref rG, .long ab0, .long be0, .int mk, .ref rM, .int md, .ref rN, .ref rL, .ref rZ, .ref rE, .ref rI, .int hc, .ref rA, .ref rX, .int lnn, .ref rV, .ref rW, .int sl, .ref rC, .ref rF, .ref rQ, .ref rK, .ref rR, .ref rD])), (rC, .inl (E.2 1, 40, .inl (nA Cv))), (rF, .inl (E.2 1, 163840, .inl (nA (updN FF ((4096 * (q - 1)) + m9) (1 + (FF ((4096 * ((q - 1) + 1)) + (mdf m9 (Cv (q - 1))))))))))] H := hP
                  have hD : va_D A [(m0, .inr (9, [.int (nI sh), .ref rO, .ref rU, .ref rT, .int (nI rg), .ref rS, .ref rB, .ref rP, .ref rG, .long ab0, .long be0, .int mk, .ref rM, .int md, .ref rN, .ref rL, .ref rZ, .ref rE, .ref rI, .int hc, .ref rA, .ref rX, .int lnn, .ref rV, .ref rW, .int sl, .ref rC, .ref rF, .ref rQ, .ref rK, .ref rR, .ref rD])), (rC, .inl (E.2 1, 40, .inl (nA Cv))), (rF, .inl (E.2 1, 163840, .inl (nA (updN FF ((4096 * (q - 1)) + m9) (1 + (FF ((4096 * ((q - 1) + 1)) + (mdf m9 (Cv (q - 1))))))))))] := hD
                  refine lv_iinc (v := nI (m9 + 1)) (lv' := [(3, .int (nI (m9 + 1))), (5, .int (nI (1 + (FF ((4096 * ((q - 1) + 1)) + (mdf m9 (Cv (q - 1)))))))), (4, .int (nI (FF ((4096 * ((q - 1) + 1)) + m9)))), (0, .ref m0), (1, .int (nI (2 * sh - 1 + 4 * rg))), (2, .int (nI (q - 1)))]) hx hb dX9_findFewest_144 hl (k := 5) rfl (nI_add m9 1) (by decide) rfl (fun ls hl => ?_)
                  refine lv_goto (tgt := 53) hx hb dX9_findFewest_147 (by decide) ?_
                  exact ih53 (m9 + 1) (updN FF ((4096 * (q - 1)) + m9) (1 + (FF ((4096 * ((q - 1) + 1)) + (mdf m9 (Cv (q - 1))))))) _ _ _ (by omega) (by omega) (fun p hp1 hp2 => by
        intro m hm; rw [updN_n (by omega)]; exact hrw p hp1 hp2 m hm) (fun m h9 => by
        rcases Nat.lt_or_ge m m9 with g | g
        · rw [updN_n (by omega)]; exact hr5 m g
        · have em : m = m9 := by omega
          subst em; rw [updN_s, suf_s (by omega)]
          first | exact e133 | (exfalso; omega)) (hP.sub [0, 1, 2] rfl) (hD.sub [0, 1, 2] (by decide) rfl) hS (lv_sub hl [3, 4, 5, 0] rfl)
              · have c_82 : (Cv (q - 1)) = 0 := (nI_eq (a := Cv (q - 1)) (b := 0) (by omega) (by omega)).mp c_82
                refine lv_sipush (v := 1000) hx hb dX9_findFewest_85 (by decide) ?_
                refine lv_goto (tgt := 116) hx hb dX9_findFewest_88 (by decide) ?_
                refine lv_istore (lv' := [(5, .int 1000), (4, .int (nI (FF ((4096 * ((q - 1) + 1)) + m9)))), (0, .ref m0), (1, .int (nI (2 * sh - 1 + 4 * rg))), (2, .int (nI (q - 1))), (3, .int (nI m9))]) hx hb dX9_findFewest_116 hl (by decide) rfl (fun ls hl => ?_)
                refine lv_aload_n hx hb dX9_findFewest_118 rfl (lv_at hl 2 rfl) ?_
                refine va_get (D := E.1) (ci := 9) (v := .ref rF) (C := RX9) (T := TX9) (N := 32) hx hb hts hinX9 hown hK hP 0 rfl rfl 27 (by decide) (hts (.fieldLink RX9 73 "WornRingsModel" "fewest" "[I") (by decide +kernel)) (fun _ h9 => h9) rfl dX9_findFewest_119 ?_
                refine lv_sipush (v := 4096) hx hb dX9_findFewest_122 (by decide) ?_
                refine lv_iload_n hx hb dX9_findFewest_125 rfl (lv_at hl 4 rfl) ?_
                refine lv_imul hx hb dX9_findFewest_126 ?_
                rw [show ((4096 : Int32) * (nI (q - 1)) : Int32) = nI (4096 * (q - 1)) from pk_mul 4096 (q - 1)]
                refine lv_iload_n hx hb dX9_findFewest_127 rfl (lv_at hl 5 rfl) ?_
                refine lv_iadd hx hb dX9_findFewest_128 ?_
                rw [show ((nI (4096 * (q - 1))) + (nI m9) : Int32) = nI ((4096 * (q - 1)) + m9) from nI_add (4096 * (q - 1)) m9]
                refine lv_iload hx hb dX9_findFewest_129 (lv_at hl 0 rfl) ?_
                refine lv_iload hx hb dX9_findFewest_131 (lv_at hl 1 rfl) ?_
                refine lv_icmp_ge (tgt := 141) hx hb dX9_findFewest_133 (by decide) (fun c_133 => ?_) (fun c_133 => ?_)
                · have c_133 : (FF ((4096 * ((q - 1) + 1)) + m9)) ≤ 1000 := (nI_leI (a := FF ((4096 * ((q - 1) + 1)) + m9)) (b := 1000) (by omega) (by omega)).mp c_133
                  have e133 : FF (4096 * (q - 1 + 1) + m9) = Hf (Cv (q - 1) :: sufC Cv ((2 * sh - 1 + 4 * rg) - (q - 1 + 1)) (q - 1 + 1)) m9 := by
                    rw [hr9]; first | exact (hf_0 c_82).symm | exact (hf_hi (by omega)).symm
                  refine lv_iload hx hb dX9_findFewest_141 (lv_at hl 1 rfl) ?_
                  refine va_iast hx hb hK hP hD hS 2 1 rfl rfl (vp_in_nI (by omega) (by omega)) dX9_findFewest_143 (fun H locs hP hD hS => ?_)
                  rw [nI_clamp (n := (4096 * (q - 1)) + m9) (by omega)] at hP hD
                  rw [show upd (nA FF) ((4096 * (q - 1)) + m9) (nI (FF ((4096 * ((q - 1) + 1)) + m9))) = nA (updN FF ((4096 * (q - 1)) + m9) (FF ((4096 * ((q - 1) + 1)) + m9))) from upd_nA _ _ _] at hP hD
                  have hP : va_P E.1 vwCl [(m0, .inr (9, [.int (nI sh), .ref rO, .ref rU, .ref rT, .int (nI rg), .ref rS, .ref rB, .ref rP, .ref rG, .long ab0, .long be0, .int mk, .ref rM, .int md, .ref rN, .ref rL, .ref rZ, .ref rE, .ref rI, .int hc, .ref rA, .ref rX, .int lnn, .ref rV, .ref rW, .int sl, .ref rC, .ref rF, .ref rQ, .ref rK, .ref rR, .ref rD])), (rC, .inl (E.2 1, 40, .inl (nA Cv))), (rF, .inl (E.2 1, 163840, .inl (nA (updN FF ((4096 * (q - 1)) + m9) (FF ((4096 * ((q - 1) + 1)) + m9))))))] H := hP
                  have hD : va_D A [(m0, .inr (9, [.int (nI sh), .ref rO, .ref rU, .ref rT, .int (nI rg), .ref rS, .ref rB, .ref rP, .ref rG, .long ab0, .long be0, .int mk, .ref rM, .int md, .ref rN, .ref rL, .ref rZ, .ref rE, .ref rI, .int hc, .ref rA, .ref rX, .int lnn, .ref rV, .ref rW, .int sl, .ref rC, .ref rF, .ref rQ, .ref rK, .ref rR, .ref rD])), (rC, .inl (E.2 1, 40, .inl (nA Cv))), (rF, .inl (E.2 1, 163840, .inl (nA (updN FF ((4096 * (q - 1)) + m9) (FF ((4096 * ((q - 1) + 1)) + m9))))))] := hD
                  refine lv_iinc (v := nI (m9 + 1)) (lv' := [(3, .int (nI (m9 + 1))), (5, .int 1000), (4, .int (nI (FF ((4096 * ((q - 1) + 1)) + m9)))), (0, .ref m0), (1, .int (nI (2 * sh - 1 + 4 * rg))), (2, .int (nI (q - 1)))]) hx hb dX9_findFewest_144 hl (k := 5) rfl (nI_add m9 1) (by decide) rfl (fun ls hl => ?_)
                  refine lv_goto (tgt := 53) hx hb dX9_findFewest_147 (by decide) ?_
                  exact ih53 (m9 + 1) (updN FF ((4096 * (q - 1)) + m9) (FF ((4096 * ((q - 1) + 1)) + m9))) _ _ _ (by omega) (by omega) (fun p hp1 hp2 => by
        intro m hm; rw [updN_n (by omega)]; exact hrw p hp1 hp2 m hm) (fun m h9 => by
        rcases Nat.lt_or_ge m m9 with g | g
        · rw [updN_n (by omega)]; exact hr5 m g
        · have em : m = m9 := by omega
          subst em; rw [updN_s, suf_s (by omega)]
          first | exact e133 | (exfalso; omega)) (hP.sub [0, 1, 2] rfl) (hD.sub [0, 1, 2] (by decide) rfl) hS (lv_sub hl [3, 4, 5, 0] rfl)
                · have c_133 : ¬ (FF ((4096 * ((q - 1) + 1)) + m9)) ≤ 1000 := fun h9 => c_133 ((nI_leI (a := FF ((4096 * ((q - 1) + 1)) + m9)) (b := 1000) (by omega) (by omega)).mpr h9)
                  have e133 : 1 + FF (4096 * (q - 1 + 1) + mdf m9 (Cv (q - 1))) = Hf (Cv (q - 1) :: sufC Cv ((2 * sh - 1 + 4 * rg) - (q - 1 + 1)) (q - 1 + 1)) m9 := by
                    first | (exfalso; omega) | (rw [hr8b]; exact (hf_lo (by omega)).symm)
                  refine lv_iload hx hb dX9_findFewest_136 (lv_at hl 0 rfl) ?_
                  refine lv_goto (tgt := 143) hx hb dX9_findFewest_138 (by decide) ?_
                  refine va_iast hx hb hK hP hD hS 2 1 rfl rfl (vp_in_nI (by omega) (by omega)) dX9_findFewest_143 (fun H locs hP hD hS => ?_)
                  rw [nI_clamp (n := (4096 * (q - 1)) + m9) (by omega)] at hP hD
                  rw [show upd (nA FF) ((4096 * (q - 1)) + m9) ((1000 : Int32)) = nA (updN FF ((4096 * (q - 1)) + m9) 1000) from upd_nA _ _ _] at hP hD
                  have hP : va_P E.1 vwCl [(m0, .inr (9, [.int (nI sh), .ref rO, .ref rU, .ref rT, .int (nI rg), .ref rS, .ref rB, .ref rP, .ref rG, .long ab0, .long be0, .int mk, .ref rM, .int md, .ref rN, .ref rL, .ref rZ, .ref rE, .ref rI, .int hc, .ref rA, .ref rX, .int lnn, .ref rV, .ref rW, .int sl, .ref rC, .ref rF, .ref rQ, .ref rK, .ref rR, .ref rD])), (rC, .inl (E.2 1, 40, .inl (nA Cv))), (rF, .inl (E.2 1, 163840, .inl (nA (updN FF ((4096 * (q - 1)) + m9) 1000))))] H := hP
                  have hD : va_D A [(m0, .inr (9, [.int (nI sh), .ref rO, .ref rU, .ref rT, .int (nI rg), .ref rS, .ref rB, .ref rP, .ref rG, .long ab0, .long be0, .int mk, .ref rM, .int md, .ref rN, .ref rL, .ref rZ, .ref rE, .ref rI, .int hc, .ref rA, .ref rX, .int lnn, .ref rV, .ref rW, .int sl, .ref rC, .ref rF, .ref rQ, .ref rK, .ref rR, .ref rD])), (rC, .inl (E.2 1, 40, .inl (nA Cv))), (rF, .inl (E.2 1, 163840, .inl (nA (updN FF ((4096 * (q - 1)) + m9) 1000))))] := hD
                  refine lv_iinc (v := nI (m9 + 1)) (lv' := [(3, .int (nI (m9 + 1))), (5, .int 1000), (4, .int (nI (FF ((4096 * ((q - 1) + 1)) + m9)))), (0, .ref m0), (1, .int (nI (2 * sh - 1 + 4 * rg))), (2, .int (nI (q - 1)))]) hx hb dX9_findFewest_144 hl (k := 5) rfl (nI_add m9 1) (by decide) rfl (fun ls hl => ?_)
                  refine lv_goto (tgt := 53) hx hb dX9_findFewest_147 (by decide) ?_
                  exact ih53 (m9 + 1) (updN FF ((4096 * (q - 1)) + m9) 1000) _ _ _ (by omega) (by omega) (fun p hp1 hp2 => by
        intro m hm; rw [updN_n (by omega)]; exact hrw p hp1 hp2 m hm) (fun m h9 => by
        rcases Nat.lt_or_ge m m9 with g | g
        · rw [updN_n (by omega)]; exact hr5 m g
        · have em : m = m9 := by omega
          subst em; rw [updN_s, suf_s (by omega)]
          first | exact e133 | (exfalso; omega)) (hP.sub [0, 1, 2] rfl) (hD.sub [0, 1, 2] (by decide) rfl) hS (lv_sub hl [3, 4, 5, 0] rfl)
    · have c_11 : ¬ 4096 ≤ m9 := fun h9 => c_11 ((nI_leI (a := 4096) (b := m9) (by omega) (by omega)).mpr h9)
      refine lv_aload_n hx hb dX9_findFewest_14 rfl (lv_at hl 0 rfl) ?_
      refine va_get (D := E.1) (ci := 9) (v := .ref rF) (C := RX9) (T := TX9) (N := 32) hx hb hts hinX9 hown hK hP 0 rfl rfl 27 (by decide) (hts (.fieldLink RX9 73 "WornRingsModel" "fewest" "[I") (by decide +kernel)) (fun _ h9 => h9) rfl dX9_findFewest_15 ?_
      refine lv_sipush (v := 4096) hx hb dX9_findFewest_18 (by decide) ?_
      refine lv_iload_n hx hb dX9_findFewest_21 rfl (lv_at hl 1 rfl) ?_
      refine lv_imul hx hb dX9_findFewest_22 ?_
      rw [show ((4096 : Int32) * (nI (2 * sh - 1 + 4 * rg)) : Int32) = nI (4096 * (2 * sh - 1 + 4 * rg)) from pk_mul 4096 (2 * sh - 1 + 4 * rg)]
      refine lv_iload_n hx hb dX9_findFewest_23 rfl (lv_at hl 2 rfl) ?_
      refine lv_iadd hx hb dX9_findFewest_24 ?_
      rw [show ((nI (4096 * (2 * sh - 1 + 4 * rg))) + (nI m9) : Int32) = nI ((4096 * (2 * sh - 1 + 4 * rg)) + m9) from nI_add (4096 * (2 * sh - 1 + 4 * rg)) m9]
      refine lv_iload_n hx hb dX9_findFewest_25 rfl (lv_at hl 2 rfl) ?_
      refine lv_if_ne (tgt := 33) hx hb dX9_findFewest_26 (by decide) (fun c_26 => ?_) (fun c_26 => ?_)
      · have c_26 : ¬ m9 = 0 := fun h9 => c_26 ((nI_eq (a := m9) (b := 0) (by omega) (by omega)).mpr h9)
        refine lv_sipush (v := 1000) hx hb dX9_findFewest_33 (by decide) ?_
        refine va_iast hx hb hK hP hD hS 2 1 rfl rfl (vp_in_nI (by omega) (by omega)) dX9_findFewest_36 (fun H locs hP hD hS => ?_)
        rw [nI_clamp (n := (4096 * (2 * sh - 1 + 4 * rg)) + m9) (by omega)] at hP hD
        rw [show upd (nA FF) ((4096 * (2 * sh - 1 + 4 * rg)) + m9) ((1000 : Int32)) = nA (updN FF ((4096 * (2 * sh - 1 + 4 * rg)) + m9) 1000) from upd_nA _ _ _] at hP hD
        have hP : va_P E.1 vwCl [(m0, .inr (9, [.int (nI sh), .ref rO, .ref rU, .ref rT, .int (nI rg), .ref rS, .ref rB, .ref rP, .ref rG, .long ab0, .long be0, .int mk, .ref rM, .int md, .ref rN, .ref rL, .ref rZ, .ref rE, .ref rI, .int hc, .ref rA, .ref rX, .int lnn, .ref rV, .ref rW, .int sl, .ref rC, .ref rF, .ref rQ, .ref rK, .ref rR, .ref rD])), (rC, .inl (E.2 1, 40, .inl (nA Cv))), (rF, .inl (E.2 1, 163840, .inl (nA (updN FF ((4096 * (2 * sh - 1 + 4 * rg)) + m9) 1000))))] H := hP
        have hD : va_D A [(m0, .inr (9, [.int (nI sh), .ref rO, .ref rU, .ref rT, .int (nI rg), .ref rS, .ref rB, .ref rP, .ref rG, .long ab0, .long be0, .int mk, .ref rM, .int md, .ref rN, .ref rL, .ref rZ, .ref rE, .ref rI, .int hc, .ref rA, .ref rX, .int lnn, .ref rV, .ref rW, .int sl, .ref rC, .ref rF, .ref rQ, .ref rK, .ref rR, .ref rD])), (rC, .inl (E.2 1, 40, .inl (nA Cv))), (rF, .inl (E.2 1, 163840, .inl (nA (updN FF ((4096 * (2 * sh - 1 + 4 * rg)) + m9) 1000))))] := hD
        refine lv_iinc (v := nI (m9 + 1)) (lv' := [(2, .int (nI (m9 + 1))), (0, .ref m0), (1, .int (nI (2 * sh - 1 + 4 * rg)))]) hx hb dX9_findFewest_37 hl (k := 2) rfl (nI_add m9 1) (by decide) rfl (fun ls hl => ?_)
        refine lv_goto (tgt := 7) hx hb dX9_findFewest_40 (by decide) ?_
        exact ih7 (m9 + 1) (updN FF ((4096 * (2 * sh - 1 + 4 * rg)) + m9) 1000) _ _ _ (by omega) (by omega) (fun m h9 => by
        rcases Nat.lt_or_ge m m9 with g | g
        · rw [updN_n (by omega)]; exact hr7 m g
        · have em : m = m9 := by omega
          subst em; rw [updN_s]; first | exact (if_pos c_26).symm | exact (if_neg c_26).symm) (hP.sub [0, 1, 2] rfl) (hD.sub [0, 1, 2] (by decide) rfl) hS (lv_sub hl [1, 2, 0] rfl)
      · have c_26 : m9 = 0 := (nI_eq (a := m9) (b := 0) (by omega) (by omega)).mp c_26
        refine lv_iconst (v := 0) hx hb dX9_findFewest_29 (by decide) ?_
        refine lv_goto (tgt := 36) hx hb dX9_findFewest_30 (by decide) ?_
        refine va_iast hx hb hK hP hD hS 2 1 rfl rfl (vp_in_nI (by omega) (by omega)) dX9_findFewest_36 (fun H locs hP hD hS => ?_)
        rw [nI_clamp (n := (4096 * (2 * sh - 1 + 4 * rg)) + m9) (by omega)] at hP hD
        rw [show upd (nA FF) ((4096 * (2 * sh - 1 + 4 * rg)) + m9) ((0 : Int32)) = nA (updN FF ((4096 * (2 * sh - 1 + 4 * rg)) + m9) 0) from upd_nA _ _ _] at hP hD
        have hP : va_P E.1 vwCl [(m0, .inr (9, [.int (nI sh), .ref rO, .ref rU, .ref rT, .int (nI rg), .ref rS, .ref rB, .ref rP, .ref rG, .long ab0, .long be0, .int mk, .ref rM, .int md, .ref rN, .ref rL, .ref rZ, .ref rE, .ref rI, .int hc, .ref rA, .ref rX, .int lnn, .ref rV, .ref rW, .int sl, .ref rC, .ref rF, .ref rQ, .ref rK, .ref rR, .ref rD])), (rC, .inl (E.2 1, 40, .inl (nA Cv))), (rF, .inl (E.2 1, 163840, .inl (nA (updN FF ((4096 * (2 * sh - 1 + 4 * rg)) + m9) 0))))] H := hP
        have hD : va_D A [(m0, .inr (9, [.int (nI sh), .ref rO, .ref rU, .ref rT, .int (nI rg), .ref rS, .ref rB, .ref rP, .ref rG, .long ab0, .long be0, .int mk, .ref rM, .int md, .ref rN, .ref rL, .ref rZ, .ref rE, .ref rI, .int hc, .ref rA, .ref rX, .int lnn, .ref rV, .ref rW, .int sl, .ref rC, .ref rF, .ref rQ, .ref rK, .ref rR, .ref rD])), (rC, .inl (E.2 1, 40, .inl (nA Cv))), (rF, .inl (E.2 1, 163840, .inl (nA (updN FF ((4096 * (2 * sh - 1 + 4 * rg)) + m9) 0))))] := hD
        refine lv_iinc (v := nI (m9 + 1)) (lv' := [(2, .int (nI (m9 + 1))), (0, .ref m0), (1, .int (nI (2 * sh - 1 + 4 * rg)))]) hx hb dX9_findFewest_37 hl (k := 2) rfl (nI_add m9 1) (by decide) rfl (fun ls hl => ?_)
        refine lv_goto (tgt := 7) hx hb dX9_findFewest_40 (by decide) ?_
        exact ih7 (m9 + 1) (updN FF ((4096 * (2 * sh - 1 + 4 * rg)) + m9) 0) _ _ _ (by omega) (by omega) (fun m h9 => by
        rcases Nat.lt_or_ge m m9 with g | g
        · rw [updN_n (by omega)]; exact hr7 m g
        · have em : m = m9 := by omega
          subst em; rw [updN_s]; first | exact (if_pos c_26).symm | exact (if_neg c_26).symm) (hP.sub [0, 1, 2] rfl) (hD.sub [0, 1, 2] (by decide) rfl) hS (lv_sub hl [1, 2, 0] rfl)
