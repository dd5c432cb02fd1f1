/-! Heap -/
theorem xx_diff (a b : Nat) : nI a &&& (nI b ^^^ (-1)) = nI (mdf a b) := by
  apply Int32.toBitVec_inj.1
  show BitVec.ofNat 32 a &&& (BitVec.ofNat 32 b ^^^ (-1 : Int32).toBitVec) = BitVec.ofNat 32 (mdf a b)
  rw [show (-1 : Int32).toBitVec = BitVec.allOnes 32 by decide]
  apply BitVec.eq_of_getLsbD_eq
  intro i hi
  rw [BitVec.getLsbD_and, BitVec.getLsbD_xor, BitVec.getLsbD_ofNat, BitVec.getLsbD_ofNat, BitVec.getLsbD_ofNat, BitVec.getLsbD_allOnes, mdf_bit]
  simp [hi]
theorem and_bit (e b : Nat) : e &&& 2 ^ b = 0 ↔ e.testBit b = false := by
  constructor
  · intro h
    have h1 : (e &&& 2 ^ b).testBit b = false := by rw [h]; simp
    rw [Nat.testBit_and, Nat.testBit_two_pow_self, Bool.and_true] at h1
    exact h1
  · intro h
    refine Nat.eq_of_testBit_eq (fun i => ?_)
    rw [Nat.testBit_and, Nat.zero_testBit, Nat.testBit_two_pow]
    by_cases e1 : b = i
    · subst e1; rw [h]; rfl
    · simp [e1]
def lowB (o : Nat) : Nat := ((List.range 12).find? (fun b => o.testBit b)).getD 0
theorem low_all : (List.range 4096).all (fun o => o == 0 || (o.testBit (lowB o) && decide (nI o &&& (-(nI o)) = nI (2 ^ lowB o)) && decide (lowB o < 12))) = true := by decide +kernel
theorem low_b {o : Nat} (h0 : 0 < o) (h : o < 4096) : o.testBit (lowB o) = true ∧ nI o &&& (-(nI o)) = nI (2 ^ lowB o) ∧ lowB o < 12 := by
  have h1 := List.all_eq_true.mp low_all o (List.mem_range.mpr h)
  simp only [Bool.or_eq_true, Bool.and_eq_true, beq_iff_eq, decide_eq_true_eq] at h1
  rcases h1 with h1 | h1
  · omega
  · exact ⟨h1.1.1, h1.1.2, h1.2⟩
theorem min_nI {a b : Nat} (ha : a < 2 ^ 31) (hb : b < 2 ^ 31) : (if nI a < nI b then nI a else nI b) = nI (if a < b then a else b) := by
  by_cases h : a < b
  · rw [if_pos h, if_pos (nI_lt h hb)]
  · rw [if_neg h, if_neg (fun h9 => h ((nI_ltI ha hb).mp h9))]
theorem byte_s : ∀ v, v < 128 → (nI v).toInt8.toInt32 = nI v := by decide +kernel
theorem nar_s {v : Nat} (h : v < 128) : vp_nar .byte (nI v) = nI v := by rw [vp_nar_byte, byte_s v h]
def ffF (Ex F : Nat → Nat) (o b : Nat) : Nat → Nat
  | 0 => 12
  | i + 1 => if (Ex i).testBit b then (if 1 + F (mdf o (Ex i)) < ffF Ex F o b i then 1 + F (mdf o (Ex i)) else ffF Ex F o b i) else ffF Ex F o b i
theorem ffF_le (Ex F : Nat → Nat) (o b : Nat) : ∀ n, ffF Ex F o b n ≤ 12
  | 0 => Nat.le_refl _
  | n + 1 => by have h := ffF_le Ex F o b n; simp only [ffF]; split <;> (try split) <;> omega
theorem ffF_lo {Ex F : Nat → Nat} {o b x : Nat} (hx : x ≤ 12) : ∀ n, (∀ i, i < n → (Ex i).testBit b = true → x ≤ 1 + F (mdf o (Ex i))) → x ≤ ffF Ex F o b n
  | 0, _ => hx
  | n + 1, h => by
    have h1 := ffF_lo hx n (fun i hi => h i (by omega))
    simp only [ffF]; split
    · have h2 := h n (by omega) ‹_›; split <;> omega
    · exact h1
theorem ffF_up {Ex F : Nat → Nat} {o b i : Nat} (hb : (Ex i).testBit b = true) : ∀ n, i < n → ffF Ex F o b n ≤ 1 + F (mdf o (Ex i))
  | 0, h => absurd h (Nat.not_lt_zero i)
  | n + 1, h => by
    simp only [ffF]
    rcases Nat.lt_or_ge i n with g | g
    · have h1 := ffF_up hb n g (F := F) (o := o)
      split
      · split <;> omega
      · exact h1
    · have e : i = n := by omega
      subst e; rw [if_pos hb]; split <;> omega
theorem RLs_mem {M : Nat → Nat} {L : List Nat} (h : RLs M L) {i : Nat} (hi : i < L.length) : M i ∈ L := by
  rw [h i hi, List.getD, List.getElem?_eq_getElem hi]; exact List.getElem_mem hi
theorem RLs_ix {M : Nat → Nat} {L : List Nat} (h : RLs M L) {e : Nat} (he : e ∈ L) : ∃ i, i < L.length ∧ M i = e := by
  obtain ⟨i, hi, h1⟩ := List.getElem_of_mem he
  exact ⟨i, hi, by rw [h i hi, List.getD, List.getElem?_eq_getElem hi]; exact h1⟩
theorem sub_cov {es : List Nat} {tg o : Nat} (htg : ∀ b, tg.testBit b = true → ∃ e ∈ es, e.testBit b = true) (ho : mdf o tg = 0) : ∀ b, o.testBit b = true → ∃ e ∈ es, e.testBit b = true := by
  intro b hb
  refine htg b ?_
  have h := mdf_bit o tg b
  rw [ho, hb, Nat.zero_testBit] at h
  cases g : tg.testBit b with
  | true => rfl
  | false => rw [g] at h; exact absurd h (by decide)
theorem sub_mdf {o tg : Nat} (e : Nat) (ho : mdf o tg = 0) : mdf (mdf o e) tg = 0 := by rw [mdf_comm, ho, mdf_z]
theorem ff_eq {Ex F : Nat → Nat} {es : List Nat} {tg o b : Nat} (hR : RLs Ex es) (htg : ∀ b, tg.testBit b = true → ∃ e ∈ es, e.testBit b = true) (ho : mdf o tg = 0) (ho2 : o < 4096) (hb : o.testBit b = true) (hF : ∀ m, m < o → mdf m tg = 0 → F m = Hf es m) : ffF Ex F o b es.length = Hf es o := by
  have h12 : Hf es o ≤ 12 := Hf_feas es 12 o (sub_cov htg ho) ho2
  refine Nat.le_antisymm ?_ ?_
  · rcases Hf_ex es o hb with h | ⟨e, he, hb2, h⟩
    · omega
    · obtain ⟨i, hi, e1⟩ := RLs_ix hR he
      subst e1
      have h1 := ffF_up hb2 es.length hi (F := F) (o := o)
      rw [hF _ (mdf_lt hb hb2) (sub_mdf _ ho)] at h1
      omega
  · refine ffF_lo h12 _ (fun i hi hb2 => ?_)
    rw [hF _ (mdf_lt hb hb2) (sub_mdf _ ho)]
    exact Hf_le1 es o (RLs_mem hR hi)
theorem zip_drop {ns es : List Nat} {i : Nat} (hl : ns.length = es.length) (h : i < es.length) : (ns.zip es).drop i = (ns.getD i 0, es.getD i 0) :: (ns.zip es).drop (i + 1) := by
  have h1 : i < (ns.zip es).length := by rw [List.length_zip]; omega
  rw [List.drop_eq_getElem_cons h1, List.getElem_zip, List.getD, List.getD, List.getElem?_eq_getElem h, List.getElem?_eq_getElem (by omega : i < ns.length)]
  rfl

set_option maxHeartbeats 1000000 in
set_option maxRecDepth 100000 in
theorem c_X0_init (l : Launch) (E : EnvT) (sz : Nat) (h0 : Nat)  : Met l yX0_init wsX0_init ({ frames := 1, cells := 4, slots := 4186, locals := 20 }) (va_Pc [.ref h0] (PW E [(h0, .inr (0, [.null, .null, .null, .null, .int 0, .int 0, .int 0, .int 0]))] sz)) (va_Qv (fun (uu : Nat × Nat × Nat × Nat) => True) (fun (uu : Nat × Nat × Nat × Nat) t => BW E (va_A [(h0, .inr (0, [.null, .null, .null, .null, .int 0, .int 0, .int 0, .int 0]))] sz) [(h0, .inr (0, [.ref uu.1, .ref uu.2.1, .ref uu.2.2.1, .ref uu.2.2.2, .int 0, .int 0, .int 0, .int 0])), (uu.1, .inl (E.2 1, 39, .inl (fun _ => 0))), (uu.2.1, .inl (E.2 1, 39, .inl (fun _ => 0))), (uu.2.2.1, .inl (E.2 0, 4096, .inl (fun _ => 0))), (uu.2.2.2, .inl (E.2 1, 12, .inl (fun _ => 0)))] t) (va_A [(h0, .inr (0, [.null, .null, .null, .null, .int 0, .int 0, .int 0, .int 0]))] sz)) 4 4186 (va_A [(h0, .inr (0, [.null, .null, .null, .null, .int 0, .int 0, .int 0, .int 0]))] sz) := by
  refine Met.ofW (cc := cX0_init) (maxL := 1) (ret := none) (by decide +kernel) rfl ?_
  intro p e s m args below meth c s₁ B hml hv
  obtain ⟨rfl, hsz, hP, hE, hD0⟩ := hv
  have hx := B.exec
  have hb := B.bytes
  have hr := B.returns
  have hts := atoms_spec (ws := wsX0_init) B.pre
  have hown : s.vm.findClass RX0 = some m.cls := findClass_of_methodNamed B.named
  have hlocks := B.notSynchronized
  have hK := hE.1
  have hNN := hE.2.1
  have hin : meth.name = "<init>" := (name_of_methodNamed B.named B.method).1
  have hinX0 : ∀ w ∈ wsX00, w ∈ wsX0_init := fun w h => List.mem_cons_of_mem _ (List.mem_append_right _ h)
  subst hsz
  have hD := hD0.self (sz := s.heap.size)
  generalize hAe : va_A [(h0, .inr (0, [.null, .null, .null, .null, .int 0, .int 0, .int 0, .int 0]))] s.heap.size = A at hD ⊢
  have hA : ∀ q : Nat, s.heap.size ≤ q → A q := fun q h => by rw [← hAe]; exact Or.inr h
  have hS : va_S A s.heap s.heap [] := va_S.rf
  have hl := lv_entry ([.ref h0]) (n := 1) (Nat.le_of_ble_eq_true rfl)
  rw [lg_entry_eq]
  generalize (lg_sl ([.ref h0]) ++ List.replicate (1 - (lg_sl ([.ref h0])).length) Slot.unset).toArray = ls at hl ⊢
  have hl : lv_has ls 1 [(0, .ref h0)] := hl
  refine lv_aload_n hx hb dX0_init_0 rfl (lv_at hl 0 rfl) ?_
  refine W.objInit hx hb hown (hts (.methodLink RX0 3 objectInit) (by decide +kernel)) (hts (.instanceMethod objectInit) (by decide +kernel)) (hts _ (List.mem_cons_of_mem _ (List.mem_append_left _ (List.mem_of_getElem? (i := 2) rfl)))) rfl (by rw [hml]; exact hl.1) rfl dX0_init_1 (Nat.le_of_ble_eq_true rfl) (Nat.le_of_ble_eq_true rfl) ?_
  refine W.eq (g2 := F0 m 4 ls []) rfl ?_
  refine lv_aload_n hx hb dX0_init_4 rfl (lv_at hl 0 rfl) ?_
  refine lv_bipush (v := 39) hx hb dX0_init_5 (by decide) ?_
  refine va_newa (atype := .int) (ty := .int) (N' := 39) (a0 := (39, .inl (fun _ => 0))) hx hb (hts (.arrayClass .int) (by decide +kernel)) rfl hK hP hD hS hA (newI _) (by decide) (by decide) (bytesI (Nat.le_of_ble_eq_true rfl)) (Nat.le_of_ble_eq_true rfl) (Nat.le_of_ble_eq_true rfl) dX0_init_7 (fun q7 cA H hK9 hP hD hS => ?_)
  obtain rfl : cA = E.2 1 := arrcl hK9 1 rfl rfl
  have hP : va_P E.1 vwCl [(h0, .inr (0, [.null, .null, .null, .null, .int 0, .int 0, .int 0, .int 0])), (q7, .inl (E.2 1, 39, .inl (fun _ => 0)))] H := hP
  have hD : va_D A [(h0, .inr (0, [.null, .null, .null, .null, .int 0, .int 0, .int 0, .int 0])), (q7, .inl (E.2 1, 39, .inl (fun _ => 0)))] := hD
  refine W.widen (k := 1) (n := 39) (by omega) (by omega) ?_
  refine va_putF (D := E.1) (ci := 0) (v := .ref q7) (ty := .array .int) (C := RX0) (T := TX0) (N := 8) hx hb hts hinX0 tyX0 tyX0_ok nmX0 hown hK hP hD hS 0 rfl rfl 0 (by decide) (hts (.fieldLink RX0 9 "WornRings$Heap" "numbers" "[I") (by decide +kernel)) (fun _ h9 => h9) rfl hin rfl (by decide +kernel) (rfl) (rfl) (Nat.le_of_ble_eq_true rfl) dX0_init_9 (fun H locs hP hD hS => ?_)
  have hP : va_P E.1 vwCl [(h0, .inr (0, [.ref q7, .null, .null, .null, .int 0, .int 0, .int 0, .int 0])), (q7, .inl (E.2 1, 39, .inl (fun _ => 0)))] H := hP
  have hD : va_D A [(h0, .inr (0, [.ref q7, .null, .null, .null, .int 0, .int 0, .int 0, .int 0])), (q7, .inl (E.2 1, 39, .inl (fun _ => 0)))] := hD
  refine lv_aload_n hx hb dX0_init_12 rfl (lv_at hl 0 rfl) ?_
  refine lv_bipush (v := 39) hx hb dX0_init_13 (by decide) ?_
  refine va_newa (atype := .int) (ty := .int) (N' := 39) (a0 := (39, .inl (fun _ => 0))) hx hb (hts (.arrayClass .int) (by decide +kernel)) rfl hK hP hD hS hA (newI _) (by decide) (by decide) (bytesI (Nat.le_of_ble_eq_true rfl)) (Nat.le_of_ble_eq_true rfl) (Nat.le_of_ble_eq_true rfl) dX0_init_15 (fun q15 cA H hK9 hP hD hS => ?_)
  obtain rfl : cA = E.2 1 := arrcl hK9 1 rfl rfl
  have hP : va_P E.1 vwCl [(h0, .inr (0, [.ref q7, .null, .null, .null, .int 0, .int 0, .int 0, .int 0])), (q7, .inl (E.2 1, 39, .inl (fun _ => 0))), (q15, .inl (E.2 1, 39, .inl (fun _ => 0)))] H := hP
  have hD : va_D A [(h0, .inr (0, [.ref q7, .null, .null, .null, .int 0, .int 0, .int 0, .int 0])), (q7, .inl (E.2 1, 39, .inl (fun _ => 0))), (q15, .inl (E.2 1, 39, .inl (fun _ => 0)))] := hD
  refine W.widen (k := 2) (n := 78) (by omega) (by omega) ?_
  refine va_putF (D := E.1) (ci := 0) (v := .ref q15) (ty := .array .int) (C := RX0) (T := TX0) (N := 8) hx hb hts hinX0 tyX0 tyX0_ok nmX0 hown hK hP hD hS 0 rfl rfl 1 (by decide) (hts (.fieldLink RX0 15 "WornRings$Heap" "explained" "[I") (by decide +kernel)) (fun _ h9 => h9) rfl hin rfl (by decide +kernel) (rfl) (rfl) (Nat.le_of_ble_eq_true rfl) dX0_init_17 (fun H locs hP hD hS => ?_)
  have hP : va_P E.1 vwCl [(h0, .inr (0, [.ref q7, .ref q15, .null, .null, .int 0, .int 0, .int 0, .int 0])), (q7, .inl (E.2 1, 39, .inl (fun _ => 0))), (q15, .inl (E.2 1, 39, .inl (fun _ => 0)))] H := hP
  have hD : va_D A [(h0, .inr (0, [.ref q7, .ref q15, .null, .null, .int 0, .int 0, .int 0, .int 0])), (q7, .inl (E.2 1, 39, .inl (fun _ => 0))), (q15, .inl (E.2 1, 39, .inl (fun _ => 0)))] := hD
  refine lv_aload_n hx hb dX0_init_20 rfl (lv_at hl 0 rfl) ?_
  refine lv_sipush (v := 4096) hx hb dX0_init_21 (by decide) ?_
  refine va_newa (atype := .byte) (ty := .byte) (N' := 4096) (a0 := (4096, .inl (fun _ => 0))) hx hb (hts (.arrayClass .byte) (by decide +kernel)) rfl hK hP hD hS hA (newB _) (by decide) (by decide) (bytesB (Nat.le_of_ble_eq_true rfl)) (Nat.le_of_ble_eq_true rfl) (Nat.le_of_ble_eq_true rfl) dX0_init_24 (fun q24 cA H hK9 hP hD hS => ?_)
  obtain rfl : cA = E.2 0 := arrcl hK9 0 rfl rfl
  have hP : va_P E.1 vwCl [(h0, .inr (0, [.ref q7, .ref q15, .null, .null, .int 0, .int 0, .int 0, .int 0])), (q7, .inl (E.2 1, 39, .inl (fun _ => 0))), (q15, .inl (E.2 1, 39, .inl (fun _ => 0))), (q24, .inl (E.2 0, 4096, .inl (fun _ => 0)))] H := hP
  have hD : va_D A [(h0, .inr (0, [.ref q7, .ref q15, .null, .null, .int 0, .int 0, .int 0, .int 0])), (q7, .inl (E.2 1, 39, .inl (fun _ => 0))), (q15, .inl (E.2 1, 39, .inl (fun _ => 0))), (q24, .inl (E.2 0, 4096, .inl (fun _ => 0)))] := hD
  refine W.widen (k := 3) (n := 4174) (by omega) (by omega) ?_
  refine va_putF (D := E.1) (ci := 0) (v := .ref q24) (ty := .array .byte) (C := RX0) (T := TX0) (N := 8) hx hb hts hinX0 tyX0 tyX0_ok nmX0 hown hK hP hD hS 0 rfl rfl 2 (by decide) (hts (.fieldLink RX0 18 "WornRings$Heap" "fewest" "[B") (by decide +kernel)) (fun _ h9 => h9) rfl hin rfl (by decide +kernel) (rfl) (rfl) (Nat.le_of_ble_eq_true rfl) dX0_init_26 (fun H locs hP hD hS => ?_)
  have hP : va_P E.1 vwCl [(h0, .inr (0, [.ref q7, .ref q15, .ref q24, .null, .int 0, .int 0, .int 0, .int 0])), (q7, .inl (E.2 1, 39, .inl (fun _ => 0))), (q15, .inl (E.2 1, 39, .inl (fun _ => 0))), (q24, .inl (E.2 0, 4096, .inl (fun _ => 0)))] H := hP
  have hD : va_D A [(h0, .inr (0, [.ref q7, .ref q15, .ref q24, .null, .int 0, .int 0, .int 0, .int 0])), (q7, .inl (E.2 1, 39, .inl (fun _ => 0))), (q15, .inl (E.2 1, 39, .inl (fun _ => 0))), (q24, .inl (E.2 0, 4096, .inl (fun _ => 0)))] := hD
  refine lv_aload_n hx hb dX0_init_29 rfl (lv_at hl 0 rfl) ?_
  refine lv_bipush (v := 12) hx hb dX0_init_30 (by decide) ?_
  refine va_newa (atype := .int) (ty := .int) (N' := 12) (a0 := (12, .inl (fun _ => 0))) hx hb (hts (.arrayClass .int) (by decide +kernel)) rfl hK hP hD hS hA (newI _) (by decide) (by decide) (bytesI (Nat.le_of_ble_eq_true rfl)) (Nat.le_of_ble_eq_true rfl) (Nat.le_of_ble_eq_true rfl) dX0_init_32 (fun q32 cA H hK9 hP hD hS => ?_)
  obtain rfl : cA = E.2 1 := arrcl hK9 1 rfl rfl
  have hP : va_P E.1 vwCl [(h0, .inr (0, [.ref q7, .ref q15, .ref q24, .null, .int 0, .int 0, .int 0, .int 0])), (q7, .inl (E.2 1, 39, .inl (fun _ => 0))), (q15, .inl (E.2 1, 39, .inl (fun _ => 0))), (q24, .inl (E.2 0, 4096, .inl (fun _ => 0))), (q32, .inl (E.2 1, 12, .inl (fun _ => 0)))] H := hP
  have hD : va_D A [(h0, .inr (0, [.ref q7, .ref q15, .ref q24, .null, .int 0, .int 0, .int 0, .int 0])), (q7, .inl (E.2 1, 39, .inl (fun _ => 0))), (q15, .inl (E.2 1, 39, .inl (fun _ => 0))), (q24, .inl (E.2 0, 4096, .inl (fun _ => 0))), (q32, .inl (E.2 1, 12, .inl (fun _ => 0)))] := hD
  refine W.widen (k := 4) (n := 4186) (by omega) (by omega) ?_
  refine va_putF (D := E.1) (ci := 0) (v := .ref q32) (ty := .array .int) (C := RX0) (T := TX0) (N := 8) hx hb hts hinX0 tyX0 tyX0_ok nmX0 hown hK hP hD hS 0 rfl rfl 3 (by decide) (hts (.fieldLink RX0 22 "WornRings$Heap" "chosen" "[I") (by decide +kernel)) (fun _ h9 => h9) rfl hin rfl (by decide +kernel) (rfl) (rfl) (Nat.le_of_ble_eq_true rfl) dX0_init_34 (fun H locs hP hD hS => ?_)
  have hP : va_P E.1 vwCl [(h0, .inr (0, [.ref q7, .ref q15, .ref q24, .ref q32, .int 0, .int 0, .int 0, .int 0])), (q7, .inl (E.2 1, 39, .inl (fun _ => 0))), (q15, .inl (E.2 1, 39, .inl (fun _ => 0))), (q24, .inl (E.2 0, 4096, .inl (fun _ => 0))), (q32, .inl (E.2 1, 12, .inl (fun _ => 0)))] H := hP
  have hD : va_D A [(h0, .inr (0, [.ref q7, .ref q15, .ref q24, .ref q32, .int 0, .int 0, .int 0, .int 0])), (q7, .inl (E.2 1, 39, .inl (fun _ => 0))), (q15, .inl (E.2 1, 39, .inl (fun _ => 0))), (q24, .inl (E.2 0, 4096, .inl (fun _ => 0))), (q32, .inl (E.2 1, 12, .inl (fun _ => 0)))] := hD
  have hP9 : va_P E.1 vwCl [(h0, .inr (0, [.ref q7, .ref q15, .ref q24, .ref q32, .int 0, .int 0, .int 0, .int 0])), (q7, .inl (E.2 1, 39, .inl (fun _ => 0))), (q15, .inl (E.2 1, 39, .inl (fun _ => 0))), (q24, .inl (E.2 0, 4096, .inl (fun _ => 0))), (q32, .inl (E.2 1, 12, .inl (fun _ => 0)))] H := hP.sub [0, 1, 2, 3, 4] rfl
  have hD9 : va_D A [(h0, .inr (0, [.ref q7, .ref q15, .ref q24, .ref q32, .int 0, .int 0, .int 0, .int 0])), (q7, .inl (E.2 1, 39, .inl (fun _ => 0))), (q15, .inl (E.2 1, 39, .inl (fun _ => 0))), (q24, .inl (E.2 0, 4096, .inl (fun _ => 0))), (q32, .inl (E.2 1, 12, .inl (fun _ => 0)))] := hD.sub [0, 1, 2, 3, 4] (by decide) rfl
  exact W.vret hx hb hr (fun t9 ht9 hW9 => ⟨⟨(q7, q15, q24, q32), rfl, trivial, ⟨by rw [ht9]; exact hP9, hD9⟩⟩, hS.F ht9⟩) hS.2.2 dX0_init_37
set_option maxHeartbeats 1000000 in
set_option maxRecDepth 100000 in
theorem c_X0_forget (l : Launch) (E : EnvT) (sz : Nat) (h0 : Nat) (an : Nat) (ae : Nat) (af : Nat) (ac : Nat) (cd : Int32) (tg : Int32) (szz : Int32) (ld : Int32)  : Met l yX0_forget wsX0_forget ({ frames := 0, cells := 0, slots := 0, locals := 0 }) (va_Pc [.ref h0] (PW E [(h0, .inr (0, [.ref an, .ref ae, .ref af, .ref ac, .int cd, .int tg, .int szz, .int ld]))] sz)) (va_Qv (fun (uu : Unit) => True) (fun (uu : Unit) t => BW E (va_A [(h0, .inr (0, [.ref an, .ref ae, .ref af, .ref ac, .int cd, .int tg, .int szz, .int ld]))] sz) [(h0, .inr (0, [.ref an, .ref ae, .ref af, .ref ac, .int cd, .int tg, .int szz, .int 0]))] t) (va_A [(h0, .inr (0, [.ref an, .ref ae, .ref af, .ref ac, .int cd, .int tg, .int szz, .int ld]))] sz)) 0 0 (va_A [(h0, .inr (0, [.ref an, .ref ae, .ref af, .ref ac, .int cd, .int tg, .int szz, .int ld]))] sz) := by
  refine Met.ofW (cc := cX0_forget) (maxL := 1) (ret := none) (by decide +kernel) rfl ?_
  intro p e s m args below meth c s₁ B hml hv
  obtain ⟨rfl, hsz, hP, hE, hD0⟩ := hv
  have hx := B.exec
  have hb := B.bytes
  have hr := B.returns
  have hts := atoms_spec (ws := wsX0_forget) B.pre
  have hown : s.vm.findClass RX0 = some m.cls := findClass_of_methodNamed B.named
  have hlocks := B.notSynchronized
  have hK := hE.1
  have hNN := hE.2.1
  have hinX0 : ∀ w ∈ wsX00, w ∈ wsX0_forget := fun w h => List.mem_cons_of_mem _ (List.mem_append_right _ h)
  subst hsz
  have hD := hD0.self (sz := s.heap.size)
  generalize hAe : va_A [(h0, .inr (0, [.ref an, .ref ae, .ref af, .ref ac, .int cd, .int tg, .int szz, .int ld]))] s.heap.size = A at hD ⊢
  have hA : ∀ q : Nat, s.heap.size ≤ q → A q := fun q h => by rw [← hAe]; exact Or.inr h
  have hS : va_S A s.heap s.heap [] := va_S.rf
  have hl := lv_entry ([.ref h0]) (n := 1) (Nat.le_of_ble_eq_true rfl)
  rw [lg_entry_eq]
  generalize (lg_sl ([.ref h0]) ++ List.replicate (1 - (lg_sl ([.ref h0])).length) Slot.unset).toArray = ls at hl ⊢
  have hl : lv_has ls 1 [(0, .ref h0)] := hl
  refine lv_aload_n hx hb dX0_forget_0 rfl (lv_at hl 0 rfl) ?_
  refine lv_iconst (v := 0) hx hb dX0_forget_1 (by decide) ?_
  refine va_put (D := E.1) (ci := 0) (v := .int 0) (ty := .boolean) (C := RX0) (T := TX0) (N := 8) hx hb hts hinX0 tyX0 tyX0_ok nmX0 hown hK hP hD hS 0 rfl rfl 7 (by decide) (hts (.fieldLink RX0 25 "WornRings$Heap" "laid" "Z") (by decide +kernel)) (fun _ h9 => h9) rfl (by decide +kernel) (rfl) (rfl) (Nat.le_of_ble_eq_true rfl) dX0_forget_2 (fun H locs hP hD hS => ?_)
  have hP : va_P E.1 vwCl [(h0, .inr (0, [.ref an, .ref ae, .ref af, .ref ac, .int cd, .int tg, .int szz, .int 0]))] H := hP
  have hD : va_D A [(h0, .inr (0, [.ref an, .ref ae, .ref af, .ref ac, .int cd, .int tg, .int szz, .int 0]))] := hD
  have hP9 : va_P E.1 vwCl [(h0, .inr (0, [.ref an, .ref ae, .ref af, .ref ac, .int cd, .int tg, .int szz, .int 0]))] H := hP.sub [0] rfl
  have hD9 : va_D A [(h0, .inr (0, [.ref an, .ref ae, .ref af, .ref ac, .int cd, .int tg, .int szz, .int 0]))] := hD.sub [0] (by decide) rfl
  exact W.vret hx hb hr (fun t9 ht9 hW9 => ⟨⟨(), rfl, trivial, ⟨by rw [ht9]; exact hP9, hD9⟩⟩, hS.F ht9⟩) hS.2.2 dX0_forget_5
set_option maxHeartbeats 1000000 in
set_option maxRecDepth 100000 in
theorem c_X0_fewestFor (l : Launch) (E : EnvT) (h0 : Nat) (an : Nat) (ae : Nat) (af : Nat) (ac : Nat) (es : List Nat) (tg : Int32) (szz : Int32) (ld : Int32) (Ex : Nat → Nat) (Fw : Nat → Nat) (o : Nat) (b : Nat) (hR : RLs Ex es) (hes : es.length ≤ 39) (ho : o < 4096) (hb : b < 12) (hlow : nI o &&& (-(nI o)) = nI (2 ^ b)) (hF : ∀ j, Fw j ≤ 12) : Met l yX0_fewestFor wsX0_fewestFor ({ frames := 1, cells := 0, slots := 0, locals := 21 }) (va_Pc [.ref h0, .int (nI o)] (PR E [(h0, .inr (0, [.ref an, .ref ae, .ref af, .ref ac, .int (nI es.length), .int tg, .int szz, .int ld])), (ae, .inl (E.2 1, 39, .inl (nA Ex))), (af, .inl (E.2 0, 4096, .inl (nA Fw)))])) (vp_Si (fun r => r = nI (ffF Ex Fw o b es.length))) 0 0 (fun _ => False) := by
  refine Met.ofW (cc := cX0_fewestFor) (maxL := 5) (ret := (some .int)) (by decide +kernel) rfl ?_
  intro p e s m args below meth c s₁ B hml hv
  obtain ⟨rfl, hP, hE⟩ := hv
  have hx := B.exec
  have hb := B.bytes
  have hr := B.returns
  have hts := atoms_spec (ws := wsX0_fewestFor) B.pre
  have hown : s.vm.findClass RX0 = some m.cls := findClass_of_methodNamed B.named
  have hlocks := B.notSynchronized
  have hK := hE.1
  have hNN := hE.2.1
  have hinX0 : ∀ w ∈ wsX00, w ∈ wsX0_fewestFor := fun w h => List.mem_cons_of_mem _ (List.mem_append_right _ h)
  have hl := lv_entry ([.ref h0, .int (nI o)]) (n := 5) (Nat.le_of_ble_eq_true rfl)
  rw [lg_entry_eq]
  generalize (lg_sl ([.ref h0, .int (nI o)]) ++ List.replicate (5 - (lg_sl ([.ref h0, .int (nI o)])).length) Slot.unset).toArray = ls at hl ⊢
  have hl : lv_has ls 5 [(0, .ref h0), (1, .int (nI o))] := hl
  refine lv_iload_n hx hb dX0_fewestFor_0 rfl (lv_at hl 1 rfl) ?_
  refine lv_iload_n hx hb dX0_fewestFor_1 rfl (lv_at hl 1 rfl) ?_
  refine lv_ineg hx hb dX0_fewestFor_2 ?_
  refine lv_iand hx hb dX0_fewestFor_3 ?_
  rw [show ((nI o) &&& (-(nI o)) : Int32) = nI (2 ^ b) from hlow]
  refine lv_istore_n (lv' := [(2, .int (nI (2 ^ b))), (0, .ref h0), (1, .int (nI o))]) hx hb dX0_fewestFor_4 rfl hl (by decide) rfl (fun ls hl => ?_)
  refine lv_bipush (v := 12) hx hb dX0_fewestFor_5 (by decide) ?_
  refine lv_istore_n (lv' := [(3, .int 12), (2, .int (nI (2 ^ b))), (0, .ref h0), (1, .int (nI o))]) hx hb dX0_fewestFor_7 rfl hl (by decide) rfl (fun ls hl => ?_)
  refine lv_iconst (v := 0) hx hb dX0_fewestFor_8 (by decide) ?_
  refine lv_istore (lv' := [(4, .int 0), (3, .int 12), (2, .int (nI (2 ^ b))), (0, .ref h0), (1, .int (nI o))]) hx hb dX0_fewestFor_9 hl (by decide) rfl (fun ls hl => ?_)
  refine (fun (lp11 : ∀ (n9 : Nat) (i : Nat) (ls : Array Slot), (es.length - i) < n9 → (i ≤ es.length) → lv_has ls 5 [(0, .ref h0), (1, .int (nI o)), (2, .int (nI (2 ^ b))), (3, .int (nI (ffF Ex Fw o b i))), (4, .int (nI i))] → W p l e _ s m _ below meth c s.heap [] _ _ _ (F0 m 11 ls [])) => lp11 (es.length + 1) 0 _ (by omega) (by omega) (lv_sub hl [3, 4, 2, 1, 0] rfl)) ?_
  intro n11
  induction n11 with
  | zero => intro i ls h0; exact absurd (by assumption) (Nat.not_lt_zero _)
  | succ n11 ih11 =>
    intro i ls hmu11 hi hl
    have h9 := ffF_le Ex Fw o b i
    refine lv_iload hx hb dX0_fewestFor_11 (lv_at hl 4 rfl) ?_
    refine lv_aload_n hx hb dX0_fewestFor_13 rfl (lv_at hl 0 rfl) ?_
    refine va_get (D := E.1) (ci := 0) (v := .int (nI es.length)) (C := RX0) (T := TX0) (N := 8) hx hb hts hinX0 hown hK hP 0 rfl rfl 4 (by decide) (hts (.fieldLink RX0 39 "WornRings$Heap" "candidates" "I") (by decide +kernel)) (fun _ h9 => h9) rfl dX0_fewestFor_14 ?_
    refine lv_icmp_ge (tgt := 61) hx hb dX0_fewestFor_17 (by decide) (fun c_17 => ?_) (fun c_17 => ?_)
    · have c_17 : es.length ≤ i := (nI_leI (a := es.length) (b := i) (by omega) (by omega)).mp c_17
      refine lv_iload_n hx hb dX0_fewestFor_61 rfl (lv_at hl 3 rfl) ?_
      exact W.iret (v := nI (ffF Ex Fw o b i)) hx hb hr (fun t9 ht9 hW9 => ⟨nI (ffF Ex Fw o b i), rfl, by rw [show i = es.length by omega], ht9⟩) (fun _ h => absurd h List.not_mem_nil) dX0_fewestFor_62
    · have c_17 : ¬ es.length ≤ i := fun h9 => c_17 ((nI_leI (a := es.length) (b := i) (by omega) (by omega)).mpr h9)
      refine lv_aload_n hx hb dX0_fewestFor_20 rfl (lv_at hl 0 rfl) ?_
      refine va_get (D := E.1) (ci := 0) (v := .ref ae) (C := RX0) (T := TX0) (N := 8) hx hb hts hinX0 hown hK hP 0 rfl rfl 1 (by decide) (hts (.fieldLink RX0 15 "WornRings$Heap" "explained" "[I") (by decide +kernel)) (fun _ h9 => h9) rfl dX0_fewestFor_21 ?_
      refine lv_iload hx hb dX0_fewestFor_24 (lv_at hl 4 rfl) ?_
      refine va_iald hx hb hK hP 1 1 rfl rfl (vp_in_nI (by omega) (by omega)) dX0_fewestFor_26 ?_
      rw [nI_clamp (n := i) (by omega)]
      refine W.eq (g2 := F0 m 27 ls [.int (nI (Ex i))]) rfl ?_
      refine lv_iload_n hx hb dX0_fewestFor_27 rfl (lv_at hl 2 rfl) ?_
      refine lv_iand hx hb dX0_fewestFor_28 ?_
      rw [show ((nI (Ex i)) &&& (nI (2 ^ b)) : Int32) = nI (Ex i &&& 2 ^ b) from xx_and _ _]
      have h8 : Ex i &&& 2 ^ b ≤ 2 ^ 12 := Nat.le_trans Nat.and_le_right (Nat.pow_le_pow_right (by omega) (by omega))
      refine lv_if_eq (tgt := 55) hx hb dX0_fewestFor_29 (by decide) (fun c_29 => ?_) (fun c_29 => ?_)
      · have c_29 : (Ex i &&& 2 ^ b) = 0 := (nI_eq (a := Ex i &&& 2 ^ b) (b := 0) (by omega) (by omega)).mp c_29
        refine lv_iinc (v := nI (i + 1)) (lv' := [(4, .int (nI (i + 1))), (0, .ref h0), (1, .int (nI o)), (2, .int (nI (2 ^ b))), (3, .int (nI (ffF Ex Fw o b i)))]) hx hb dX0_fewestFor_55 hl (k := 4) rfl (nI_add i 1) (by decide) rfl (fun ls hl => ?_)
        refine lv_goto (tgt := 11) hx hb dX0_fewestFor_58 (by decide) ?_
        have e9_0 : ffF Ex Fw o b (i + 1) = ffF Ex Fw o b i := by first | (rw [ffF, if_neg (by rw [(and_bit _ _).mp c_29]; decide)]; done) | (rw [ffF, if_pos (by cases g : (Ex i).testBit b with | true => rfl | false => exact absurd ((and_bit _ _).mpr g) c_29)]; done)
        exact ih11 (i + 1) _ (by omega) (by omega) (by rw [e9_0]; exact lv_sub hl [1, 2, 3, 4, 0] rfl)
      · have c_29 : ¬ (Ex i &&& 2 ^ b) = 0 := fun h9 => c_29 ((nI_eq (a := Ex i &&& 2 ^ b) (b := 0) (by omega) (by omega)).mpr h9)
        refine lv_iload_n hx hb dX0_fewestFor_32 rfl (lv_at hl 3 rfl) ?_
        refine lv_iconst (v := 1) hx hb dX0_fewestFor_33 (by decide) ?_
        refine lv_aload_n hx hb dX0_fewestFor_34 rfl (lv_at hl 0 rfl) ?_
        refine va_get (D := E.1) (ci := 0) (v := .ref af) (C := RX0) (T := TX0) (N := 8) hx hb hts hinX0 hown hK hP 0 rfl rfl 2 (by decide) (hts (.fieldLink RX0 18 "WornRings$Heap" "fewest" "[B") (by decide +kernel)) (fun _ h9 => h9) rfl dX0_fewestFor_35 ?_
        refine lv_iload_n hx hb dX0_fewestFor_38 rfl (lv_at hl 1 rfl) ?_
        refine lv_aload_n hx hb dX0_fewestFor_39 rfl (lv_at hl 0 rfl) ?_
        refine va_get (D := E.1) (ci := 0) (v := .ref ae) (C := RX0) (T := TX0) (N := 8) hx hb hts hinX0 hown hK hP 0 rfl rfl 1 (by decide) (hts (.fieldLink RX0 15 "WornRings$Heap" "explained" "[I") (by decide +kernel)) (fun _ h9 => h9) rfl dX0_fewestFor_40 ?_
        refine lv_iload hx hb dX0_fewestFor_43 (lv_at hl 4 rfl) ?_
        refine va_iald hx hb hK hP 1 1 rfl rfl (vp_in_nI (by omega) (by omega)) dX0_fewestFor_45 ?_
        rw [nI_clamp (n := i) (by omega)]
        refine W.eq (g2 := F0 m 46 ls [.int (nI (Ex i)), .int (nI o), .ref af, .int 1, .int (nI (ffF Ex Fw o b i))]) rfl ?_
        refine lv_iconst (v := (-1)) hx hb dX0_fewestFor_46 (by decide) ?_
        refine lv_ixor hx hb dX0_fewestFor_47 ?_
        refine lv_iand hx hb dX0_fewestFor_48 ?_
        rw [show ((nI o) &&& ((nI (Ex i)) ^^^ (-1)) : Int32) = nI (mdf o (Ex i)) from xx_diff _ _]
        have h7 := mdf_le o (Ex i)
        have h6 := hF (mdf o (Ex i))
        refine va_bald hx hb hK hP 2 0 rfl rfl (vp_in_nI (by omega) (by omega)) dX0_fewestFor_49 ?_
        rw [nI_clamp (n := mdf o (Ex i)) (by omega)]
        refine W.eq (g2 := F0 m 50 ls [.int (nI (Fw (mdf o (Ex i)))), .int 1, .int (nI (ffF Ex Fw o b i))]) rfl ?_
        refine lv_iadd hx hb dX0_fewestFor_50 ?_
        rw [show ((1 : Int32) + (nI (Fw (mdf o (Ex i)))) : Int32) = nI (1 + (Fw (mdf o (Ex i)))) from nI_add 1 (Fw (mdf o (Ex i)))]
        refine va_mmin hx hb (by rw [hml]; exact hl.1.symm) hown (hts (.methodLink RX0 66 Lib.Math.min.name) (by decide +kernel)) (hts (.static Lib.Math.min.name) (by decide +kernel)) (hts (.initialized "java/lang/Math") (by decide +kernel)) (hts (.code Lib.Math.min.name Lib.Math.min.code 2 (some .int)) (by decide +kernel)) (Nat.le_of_ble_eq_true rfl) (Nat.le_of_ble_eq_true rfl) (Nat.zero_le _) (Nat.zero_le _) dX0_fewestFor_51 ?_
        rw [show (if (nI (1 + (Fw (mdf o (Ex i))))) < (nI (ffF Ex Fw o b i)) then (nI (1 + (Fw (mdf o (Ex i))))) else (nI (ffF Ex Fw o b i)) : Int32) = nI (if 1 + Fw (mdf o (Ex i)) < ffF Ex Fw o b i then 1 + Fw (mdf o (Ex i)) else ffF Ex Fw o b i) from min_nI (by omega) (by omega)]
        refine lv_istore_n (lv' := [(3, .int (nI (if 1 + Fw (mdf o (Ex i)) < ffF Ex Fw o b i then 1 + Fw (mdf o (Ex i)) else ffF Ex Fw o b i))), (0, .ref h0), (1, .int (nI o)), (2, .int (nI (2 ^ b))), (4, .int (nI i))]) hx hb dX0_fewestFor_54 rfl hl (by decide) rfl (fun ls hl => ?_)
        refine lv_iinc (v := nI (i + 1)) (lv' := [(4, .int (nI (i + 1))), (3, .int (nI (if 1 + Fw (mdf o (Ex i)) < ffF Ex Fw o b i then 1 + Fw (mdf o (Ex i)) else ffF Ex Fw o b i))), (0, .ref h0), (1, .int (nI o)), (2, .int (nI (2 ^ b)))]) hx hb dX0_fewestFor_55 hl (k := 4) rfl (nI_add i 1) (by decide) rfl (fun ls hl => ?_)
        refine lv_goto (tgt := 11) hx hb dX0_fewestFor_58 (by decide) ?_
        have e9_0 : ffF Ex Fw o b (i + 1) = if 1 + Fw (mdf o (Ex i)) < ffF Ex Fw o b i then 1 + Fw (mdf o (Ex i)) else ffF Ex Fw o b i := by first | (rw [ffF, if_neg (by rw [(and_bit _ _).mp c_29]; decide)]; done) | (rw [ffF, if_pos (by cases g : (Ex i).testBit b with | true => rfl | false => exact absurd ((and_bit _ _).mpr g) c_29)]; done)
        exact ih11 (i + 1) _ (by omega) (by omega) (by rw [e9_0]; exact lv_sub hl [2, 3, 4, 1, 0] rfl)
set_option maxHeartbeats 1000000 in
set_option maxRecDepth 100000 in
theorem c_X0_countFewest (l : Launch) (E : EnvT) (sz : Nat) (h0 : Nat) (an : Nat) (ae : Nat) (af : Nat) (ac : Nat) (es : List Nat) (tg : Nat) (szz : Int32) (ld : Int32) (Ex : Nat → Nat) (Fw : Nat → Nat) (hR : RLs Ex es) (hes : es.length ≤ 39) (htg : ∀ b, tg.testBit b = true → ∃ e ∈ es, e.testBit b = true) (htg2 : tg < 4096) (hb0 : ∀ j, Fw j ≤ 12) : Met l yX0_countFewest wsX0_countFewest ({ frames := 2, cells := 0, slots := 0, locals := 45 }) (va_Pc [.ref h0] (PW E [(h0, .inr (0, [.ref an, .ref ae, .ref af, .ref ac, .int (nI es.length), .int (nI tg), .int szz, .int ld])), (ae, .inl (E.2 1, 39, .inl (nA Ex))), (af, .inl (E.2 0, 4096, .inl (nA Fw)))] sz)) (va_Qv (fun (uu : (Nat → Nat)) => (∀ m, m ≤ tg → mdf m tg = 0 → uu m = Hf es m) ∧ (∀ j, uu j ≤ 12)) (fun (uu : (Nat → Nat)) t => BW E (va_A [(h0, .inr (0, [.ref an, .ref ae, .ref af, .ref ac, .int (nI es.length), .int (nI tg), .int szz, .int ld])), (ae, .inl (E.2 1, 39, .inl (nA Ex))), (af, .inl (E.2 0, 4096, .inl (nA Fw)))] sz) [(h0, .inr (0, [.ref an, .ref ae, .ref af, .ref ac, .int (nI es.length), .int (nI tg), .int szz, .int ld])), (ae, .inl (E.2 1, 39, .inl (nA Ex))), (af, .inl (E.2 0, 4096, .inl (nA uu)))] t) (va_A [(h0, .inr (0, [.ref an, .ref ae, .ref af, .ref ac, .int (nI es.length), .int (nI tg), .int szz, .int ld])), (ae, .inl (E.2 1, 39, .inl (nA Ex))), (af, .inl (E.2 0, 4096, .inl (nA Fw)))] sz)) 0 0 (va_A [(h0, .inr (0, [.ref an, .ref ae, .ref af, .ref ac, .int (nI es.length), .int (nI tg), .int szz, .int ld])), (ae, .inl (E.2 1, 39, .inl (nA Ex))), (af, .inl (E.2 0, 4096, .inl (nA Fw)))] sz) := by
  refine Met.ofW (cc := cX0_countFewest) (maxL := 2) (ret := none) (by decide +kernel) rfl ?_
  intro p e s m args below meth c s₁ B hml hv
  obtain ⟨rfl, hsz, hP, hE, hD0⟩ := hv
  have hx := B.exec
  have hb := B.bytes
  have hr := B.returns
  have hts := atoms_spec (ws := wsX0_countFewest) B.pre
  have hown : s.vm.findClass RX0 = some m.cls := findClass_of_methodNamed B.named
  have hlocks := B.notSynchronized
  have hK := hE.1
  have hNN := hE.2.1
  have hinX0 : ∀ w ∈ wsX00, w ∈ wsX0_countFewest := fun w h => List.mem_cons_of_mem _ (List.mem_append_right _ h)
  subst hsz
  have hD := hD0.self (sz := s.heap.size)
  generalize hAe : va_A [(h0, .inr (0, [.ref an, .ref ae, .ref af, .ref ac, .int (nI es.length), .int (nI tg), .int szz, .int ld])), (ae, .inl (E.2 1, 39, .inl (nA Ex))), (af, .inl (E.2 0, 4096, .inl (nA Fw)))] s.heap.size = A at hD ⊢
  have hA : ∀ q : Nat, s.heap.size ≤ q → A q := fun q h => by rw [← hAe]; exact Or.inr h
  have hS : va_S A s.heap s.heap [] := va_S.rf
  have hl := lv_entry ([.ref h0]) (n := 2) (Nat.le_of_ble_eq_true rfl)
  rw [lg_entry_eq]
  generalize (lg_sl ([.ref h0]) ++ List.replicate (2 - (lg_sl ([.ref h0])).length) Slot.unset).toArray = ls at hl ⊢
  have hl : lv_has ls 2 [(0, .ref h0)] := hl
  refine lv_aload_n hx hb dX0_countFewest_0 rfl (lv_at hl 0 rfl) ?_
  refine va_get (D := E.1) (ci := 0) (v := .ref af) (C := RX0) (T := TX0) (N := 8) hx hb hts hinX0 hown hK hP 0 rfl rfl 2 (by decide) (hts (.fieldLink RX0 18 "WornRings$Heap" "fewest" "[B") (by decide +kernel)) (fun _ h9 => h9) rfl dX0_countFewest_1 ?_
  refine lv_iconst (v := 0) hx hb dX0_countFewest_4 (by decide) ?_
  refine lv_iconst (v := 0) hx hb dX0_countFewest_5 (by decide) ?_
  refine va_bast hx hb hK hP hD hS 2 0 rfl rfl (by unfold vp_in; decide) dX0_countFewest_6 (fun H locs hP hD hS => ?_)
  have hP : va_P E.1 vwCl [(h0, .inr (0, [.ref an, .ref ae, .ref af, .ref ac, .int (nI es.length), .int (nI tg), .int szz, .int ld])), (ae, .inl (E.2 1, 39, .inl (nA Ex))), (af, .inl (E.2 0, 4096, .inl (upd (nA Fw) 0 (vp_nar .byte 0))))] H := hP
  have hD : va_D A [(h0, .inr (0, [.ref an, .ref ae, .ref af, .ref ac, .int (nI es.length), .int (nI tg), .int szz, .int ld])), (ae, .inl (E.2 1, 39, .inl (nA Ex))), (af, .inl (E.2 0, 4096, .inl (upd (nA Fw) 0 (vp_nar .byte 0))))] := hD
  have eb7 : upd (nA Fw) 0 (vp_nar .byte 0) = nA (updN Fw 0 0) := by rw [show vp_nar .byte 0 = nI 0 from rfl]; exact upd_nA _ _ _
  rw [eb7] at hP hD
  have hP : va_P E.1 vwCl [(h0, .inr (0, [.ref an, .ref ae, .ref af, .ref ac, .int (nI es.length), .int (nI tg), .int szz, .int ld])), (ae, .inl (E.2 1, 39, .inl (nA Ex))), (af, .inl (E.2 0, 4096, .inl (nA (updN Fw 0 0))))] H := hP
  have hD : va_D A [(h0, .inr (0, [.ref an, .ref ae, .ref af, .ref ac, .int (nI es.length), .int (nI tg), .int szz, .int ld])), (ae, .inl (E.2 1, 39, .inl (nA Ex))), (af, .inl (E.2 0, 4096, .inl (nA (updN Fw 0 0))))] := hD
  refine lv_iconst (v := 1) hx hb dX0_countFewest_7 (by decide) ?_
  refine lv_istore_n (lv' := [(1, .int 1), (0, .ref h0)]) hx hb dX0_countFewest_8 rfl hl (by decide) rfl (fun ls hl => ?_)
  refine (fun (lp9 : ∀ (n9 : Nat) (o : Nat) (FF : Nat → Nat) (H : Heap) (locs : List Loc) (ls : Array Slot), (5000 - o) < n9 → (1 ≤ o) → (o ≤ 4096) → (∀ m, m < o → mdf m tg = 0 → FF m = Hf es m) → (∀ j, FF j ≤ 12) → va_P E.1 vwCl [(h0, .inr (0, [.ref an, .ref ae, .ref af, .ref ac, .int (nI es.length), .int (nI tg), .int szz, .int ld])), (ae, .inl (E.2 1, 39, .inl (nA Ex))), (af, .inl (E.2 0, 4096, .inl (nA FF)))] H → va_D A [(h0, .inr (0, [.ref an, .ref ae, .ref af, .ref ac, .int (nI es.length), .int (nI tg), .int szz, .int ld])), (ae, .inl (E.2 1, 39, .inl (nA Ex))), (af, .inl (E.2 0, 4096, .inl (nA FF)))] → va_S A s.heap H locs → lv_has ls 2 [(0, .ref h0), (1, .int (nI o))] → W p l e _ s m _ below meth c H locs _ _ _ (F0 m 9 ls [])) => lp9 (5001) 1 (updN Fw 0 0) _ _ _ (by omega) (by omega) (by omega) (fun m h9 _ => by
    have em : m = 0 := by omega
    subst em; rw [updN_s, Hf_z]) (fun j => by
    by_cases ej : j = 0
    · subst ej; rw [updN_s]; omega
    · rw [updN_n ej]; exact hb0 j) (hP.sub [0, 1, 2] rfl) (hD.sub [0, 1, 2] (by decide) rfl) hS (lv_sub hl [1, 0] rfl)) ?_
  intro n9
  induction n9 with
  | zero => intro o FF H locs ls h0; exact absurd (by assumption) (Nat.not_lt_zero _)
  | succ n9 ih9 =>
    intro o FF H locs ls hmu9 ho ho2 hF hbF hP hD hS hl
    refine lv_iload_n hx hb dX0_countFewest_9 rfl (lv_at hl 1 rfl) ?_
    refine lv_aload_n hx hb dX0_countFewest_10 rfl (lv_at hl 0 rfl) ?_
    refine va_get (D := E.1) (ci := 0) (v := .int (nI tg)) (C := RX0) (T := TX0) (N := 8) hx hb hts hinX0 hown hK hP 0 rfl rfl 5 (by decide) (hts (.fieldLink RX0 43 "WornRings$Heap" "together" "I") (by decide +kernel)) (fun _ h9 => h9) rfl dX0_countFewest_11 ?_
    refine lv_icmp_gt (tgt := 55) hx hb dX0_countFewest_14 (by decide) (fun c_14 => ?_) (fun c_14 => ?_)
    · have c_14 : tg < o := (nI_ltI (a := tg) (b := o) (by omega) (by omega)).mp c_14
      have hP9 : va_P E.1 vwCl [(h0, .inr (0, [.ref an, .ref ae, .ref af, .ref ac, .int (nI es.length), .int (nI tg), .int szz, .int ld])), (ae, .inl (E.2 1, 39, .inl (nA Ex))), (af, .inl (E.2 0, 4096, .inl (nA FF)))] H := hP.sub [0, 1, 2] rfl
      have hD9 : va_D A [(h0, .inr (0, [.ref an, .ref ae, .ref af, .ref ac, .int (nI es.length), .int (nI tg), .int szz, .int ld])), (ae, .inl (E.2 1, 39, .inl (nA Ex))), (af, .inl (E.2 0, 4096, .inl (nA FF)))] := hD.sub [0, 1, 2] (by decide) rfl
      exact W.vret hx hb hr (fun t9 ht9 hW9 => ⟨⟨(FF), rfl, ⟨fun m h9 h8 => hF m (by omega) h8, hbF⟩, ⟨by rw [ht9]; exact hP9, hD9⟩⟩, hS.F ht9⟩) hS.2.2 dX0_countFewest_55
    · have c_14 : ¬ tg < o := fun h9 => c_14 ((nI_ltI (a := tg) (b := o) (by omega) (by omega)).mpr h9)
      refine lv_iload_n hx hb dX0_countFewest_17 rfl (lv_at hl 1 rfl) ?_
      refine lv_aload_n hx hb dX0_countFewest_18 rfl (lv_at hl 0 rfl) ?_
      refine va_get (D := E.1) (ci := 0) (v := .ref af) (C := RX0) (T := TX0) (N := 8) hx hb hts hinX0 hown hK hP 0 rfl rfl 2 (by decide) (hts (.fieldLink RX0 18 "WornRings$Heap" "fewest" "[B") (by decide +kernel)) (fun _ h9 => h9) rfl dX0_countFewest_19 ?_
      refine va_alen (v := 4096) hx hb hK hP 2 0 rfl rfl rfl dX0_countFewest_22 ?_
      refine lv_icmp_ge (tgt := 55) hx hb dX0_countFewest_23 (by decide) (fun c_23 => ?_) (fun c_23 => ?_)
      · have c_23 : 4096 ≤ o := (nI_leI (a := 4096) (b := o) (by omega) (by omega)).mp c_23
        have hP9 : va_P E.1 vwCl [(h0, .inr (0, [.ref an, .ref ae, .ref af, .ref ac, .int (nI es.length), .int (nI tg), .int szz, .int ld])), (ae, .inl (E.2 1, 39, .inl (nA Ex))), (af, .inl (E.2 0, 4096, .inl (nA FF)))] H := hP.sub [0, 1, 2] rfl
        have hD9 : va_D A [(h0, .inr (0, [.ref an, .ref ae, .ref af, .ref ac, .int (nI es.length), .int (nI tg), .int szz, .int ld])), (ae, .inl (E.2 1, 39, .inl (nA Ex))), (af, .inl (E.2 0, 4096, .inl (nA FF)))] := hD.sub [0, 1, 2] (by decide) rfl
        exact W.vret hx hb hr (fun t9 ht9 hW9 => ⟨⟨(FF), rfl, ⟨fun m h9 h8 => hF m (by omega) h8, hbF⟩, ⟨by rw [ht9]; exact hP9, hD9⟩⟩, hS.F ht9⟩) hS.2.2 dX0_countFewest_55
      · have c_23 : ¬ 4096 ≤ o := fun h9 => c_23 ((nI_leI (a := 4096) (b := o) (by omega) (by omega)).mpr h9)
        refine lv_iload_n hx hb dX0_countFewest_26 rfl (lv_at hl 1 rfl) ?_
        refine lv_aload_n hx hb dX0_countFewest_27 rfl (lv_at hl 0 rfl) ?_
        refine va_get (D := E.1) (ci := 0) (v := .int (nI tg)) (C := RX0) (T := TX0) (N := 8) hx hb hts hinX0 hown hK hP 0 rfl rfl 5 (by decide) (hts (.fieldLink RX0 43 "WornRings$Heap" "together" "I") (by decide +kernel)) (fun _ h9 => h9) rfl dX0_countFewest_28 ?_
        refine lv_iconst (v := (-1)) hx hb dX0_countFewest_31 (by decide) ?_
        refine lv_ixor hx hb dX0_countFewest_32 ?_
        refine lv_iand hx hb dX0_countFewest_33 ?_
        rw [show ((nI o) &&& ((nI tg) ^^^ (-1)) : Int32) = nI (mdf o tg) from xx_diff _ _]
        have h7 := mdf_le o tg
        refine lv_if_ne (tgt := 49) hx hb dX0_countFewest_34 (by decide) (fun c_34 => ?_) (fun c_34 => ?_)
        · have c_34 : ¬ (mdf o tg) = 0 := fun h9 => c_34 ((nI_eq (a := mdf o tg) (b := 0) (by omega) (by omega)).mpr h9)
          refine lv_iinc (v := nI (o + 1)) (lv' := [(1, .int (nI (o + 1))), (0, .ref h0)]) hx hb dX0_countFewest_49 hl (k := 1) rfl (nI_add o 1) (by decide) rfl (fun ls hl => ?_)
          refine lv_goto (tgt := 9) hx hb dX0_countFewest_52 (by decide) ?_
          exact ih9 (o + 1) FF _ _ _ (by omega) (by omega) (by omega) (fun m h9 h8 => by
          rcases Nat.lt_or_ge m o with g | g
          · exact hF m g h8
          · have em : m = o := by omega
            subst em; exact absurd h8 c_34) (hbF) (hP.sub [0, 1, 2] rfl) (hD.sub [0, 1, 2] (by decide) rfl) hS (lv_sub hl [1, 0] rfl)
        · have c_34 : (mdf o tg) = 0 := (nI_eq (a := mdf o tg) (b := 0) (by omega) (by omega)).mp c_34
          obtain ⟨hl1, hl2, hl3⟩ := low_b (o := o) (by omega) (by omega)
          have hl4 := ffF_le Ex FF o (lowB o) es.length
          refine lv_aload_n hx hb dX0_countFewest_37 rfl (lv_at hl 0 rfl) ?_
          refine va_get (D := E.1) (ci := 0) (v := .ref af) (C := RX0) (T := TX0) (N := 8) hx hb hts hinX0 hown hK hP 0 rfl rfl 2 (by decide) (hts (.fieldLink RX0 18 "WornRings$Heap" "fewest" "[B") (by decide +kernel)) (fun _ h9 => h9) rfl dX0_countFewest_38 ?_
          refine lv_iload_n hx hb dX0_countFewest_41 rfl (lv_at hl 1 rfl) ?_
          refine lv_aload_n hx hb dX0_countFewest_42 rfl (lv_at hl 0 rfl) ?_
          refine lv_iload_n hx hb dX0_countFewest_43 rfl (lv_at hl 1 rfl) ?_
          refine rVi hE ⟨hx, hb, hml, hown, hts⟩ (c_X0_fewestFor l E h0 an ae af ac es (nI tg) szz ld Ex FF o (lowB o) (hR) (hes) (by omega) (hl3) (hl2) (hbF)) (cwV 1 hts gX0_countFewest_X0_fewestFor rfl rfl rfl (by decide +kernel) ⟨Nat.le_of_ble_eq_true rfl, Nat.le_of_ble_eq_true rfl⟩) (hP.sub [0, 1, 2] rfl) 0 0 rfl rfl rfl hl.1 rfl (Nat.le_of_ble_eq_true rfl) dX0_countFewest_44 ⟨(Nat.zero_le _), (Nat.zero_le _)⟩ ?_
          refine lv_i2b (v := (nI (ffF Ex FF o (lowB o) es.length)).toInt8.toInt32) hx hb dX0_countFewest_47 (rfl) ?_
          rw [show ((nI (ffF Ex FF o (lowB o) es.length)).toInt8.toInt32 : Int32) = nI (ffF Ex FF o (lowB o) es.length) from byte_s _ (by omega)]
          refine va_bast hx hb hK hP hD hS 2 0 rfl rfl (vp_in_nI (by omega) (by omega)) dX0_countFewest_48 (fun H locs hP hD hS => ?_)
          rw [nI_clamp (n := o) (by omega)] at hP hD
          have hP : va_P E.1 vwCl [(h0, .inr (0, [.ref an, .ref ae, .ref af, .ref ac, .int (nI es.length), .int (nI tg), .int szz, .int ld])), (ae, .inl (E.2 1, 39, .inl (nA Ex))), (af, .inl (E.2 0, 4096, .inl (upd (nA FF) o (vp_nar .byte (nI (ffF Ex FF o (lowB o) es.length))))))] H := hP
          have hD : va_D A [(h0, .inr (0, [.ref an, .ref ae, .ref af, .ref ac, .int (nI es.length), .int (nI tg), .int szz, .int ld])), (ae, .inl (E.2 1, 39, .inl (nA Ex))), (af, .inl (E.2 0, 4096, .inl (upd (nA FF) o (vp_nar .byte (nI (ffF Ex FF o (lowB o) es.length))))))] := hD
          have eb49 : upd (nA FF) o (vp_nar .byte (nI (ffF Ex FF o (lowB o) es.length))) = nA (updN FF o (ffF Ex FF o (lowB o) es.length)) := by rw [nar_s (by omega)]; exact upd_nA _ _ _
          rw [eb49] at hP hD
          have hP : va_P E.1 vwCl [(h0, .inr (0, [.ref an, .ref ae, .ref af, .ref ac, .int (nI es.length), .int (nI tg), .int szz, .int ld])), (ae, .inl (E.2 1, 39, .inl (nA Ex))), (af, .inl (E.2 0, 4096, .inl (nA (updN FF o (ffF Ex FF o (lowB o) es.length)))))] H := hP
          have hD : va_D A [(h0, .inr (0, [.ref an, .ref ae, .ref af, .ref ac, .int (nI es.length), .int (nI tg), .int szz, .int ld])), (ae, .inl (E.2 1, 39, .inl (nA Ex))), (af, .inl (E.2 0, 4096, .inl (nA (updN FF o (ffF Ex FF o (lowB o) es.length)))))] := hD
          refine lv_iinc (v := nI (o + 1)) (lv' := [(1, .int (nI (o + 1))), (0, .ref h0)]) hx hb dX0_countFewest_49 hl (k := 1) rfl (nI_add o 1) (by decide) rfl (fun ls hl => ?_)
          refine lv_goto (tgt := 9) hx hb dX0_countFewest_52 (by decide) ?_
          exact ih9 (o + 1) (updN FF o (ffF Ex FF o (lowB o) es.length)) _ _ _ (by omega) (by omega) (by omega) (fun m h9 h8 => by
          rcases Nat.lt_or_ge m o with g | g
          · rw [updN_n (by omega)]; exact hF m g h8
          · have em : m = o := by omega
            subst em; rw [updN_s]; exact ff_eq hR htg h8 (by omega) hl1 hF) (fun j => by
          by_cases ej : j = o
          · subst ej; rw [updN_s]; exact ffF_le _ _ _ _ _
          · rw [updN_n ej]; exact hbF j) (hP.sub [0, 1, 2] rfl) (hD.sub [0, 1, 2] (by decide) rfl) hS (lv_sub hl [1, 0] rfl)
