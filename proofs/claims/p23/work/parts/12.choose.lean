/-! Heap.choose -/
theorem ch_take {F : Nat → Nat} {ns es : List Nat} {i o : Nat} (hl : ns.length = es.length) (h : i < es.length) (g : F (mdf o (es.getD i 0)) + 1 = F o) : chF F ((ns.zip es).drop i) o = ns.getD i 0 :: chF F ((ns.zip es).drop (i + 1)) (mdf o (es.getD i 0)) := by
  rw [zip_drop hl h, chF, if_pos g]
theorem ch_skip {F : Nat → Nat} {ns es : List Nat} {i o : Nat} (hl : ns.length = es.length) (h : i < es.length) (g : ¬ F (mdf o (es.getD i 0)) + 1 = F o) : chF F ((ns.zip es).drop i) o = chF F ((ns.zip es).drop (i + 1)) o := by
  rw [zip_drop hl h, chF, if_neg g]
theorem ch_end {F : Nat → Nat} {ns es : List Nat} {i o : Nat} (hl : ns.length = es.length) (h : es.length ≤ i) : chF F ((ns.zip es).drop i) o = [] := by
  rw [List.drop_eq_nil_of_le (by rw [List.length_zip]; omega), chF]

set_option maxHeartbeats 1000000 in
set_option maxRecDepth 100000 in
theorem c_X0_choose (l : Launch) (E : EnvT) (sz : Nat) (h0 : Nat) (an : Nat) (ae : Nat) (af : Nat) (ac : Nat) (es : List Nat) (tg : Nat) (szz : Int32) (ld : Int32) (Nu : Nat → Nat) (Ex : Nat → Nat) (Fw : Nat → Nat) (Ch : Nat → Nat) (ns : List Nat) (hR : RLs Ex es) (hes : es.length ≤ 39) (hRN : RLs Nu ns) (hln : ns.length = es.length) (hnb : ∀ j, j < ns.length → Nu j < 39) (htg : ∀ b, tg.testBit b = true → ∃ e ∈ es, e.testBit b = true) (htg2 : tg < 4096) (hF : ∀ m, m ≤ tg → mdf m tg = 0 → Fw m = Hf es m) (hbF : ∀ j, Fw j ≤ 12) : Met l yX0_choose wsX0_choose ({ frames := 0, cells := 0, slots := 0, locals := 0 }) (va_Pc [.ref h0] (PW E [(h0, .inr (0, [.ref an, .ref ae, .ref af, .ref ac, .int (nI es.length), .int (nI tg), .int szz, .int ld])), (an, .inl (E.2 1, 39, .inl (nA Nu))), (ae, .inl (E.2 1, 39, .inl (nA Ex))), (af, .inl (E.2 0, 4096, .inl (nA Fw))), (ac, .inl (E.2 1, 12, .inl (nA Ch)))] sz)) (va_Qv (fun (uu : (Nat → Nat)) => RLs uu (chF (Hf es) (ns.zip es) tg)) (fun (uu : (Nat → Nat)) t => BW E (va_A [(h0, .inr (0, [.ref an, .ref ae, .ref af, .ref ac, .int (nI es.length), .int (nI tg), .int szz, .int ld])), (an, .inl (E.2 1, 39, .inl (nA Nu))), (ae, .inl (E.2 1, 39, .inl (nA Ex))), (af, .inl (E.2 0, 4096, .inl (nA Fw))), (ac, .inl (E.2 1, 12, .inl (nA Ch)))] sz) [(h0, .inr (0, [.ref an, .ref ae, .ref af, .ref ac, .int (nI es.length), .int (nI tg), .int (nI (chF (Hf es) (ns.zip es) tg).length), .int ld])), (an, .inl (E.2 1, 39, .inl (nA Nu))), (ae, .inl (E.2 1, 39, .inl (nA Ex))), (af, .inl (E.2 0, 4096, .inl (nA Fw))), (ac, .inl (E.2 1, 12, .inl (nA uu)))] t) (va_A [(h0, .inr (0, [.ref an, .ref ae, .ref af, .ref ac, .int (nI es.length), .int (nI tg), .int szz, .int ld])), (an, .inl (E.2 1, 39, .inl (nA Nu))), (ae, .inl (E.2 1, 39, .inl (nA Ex))), (af, .inl (E.2 0, 4096, .inl (nA Fw))), (ac, .inl (E.2 1, 12, .inl (nA Ch)))] sz)) 0 0 (va_A [(h0, .inr (0, [.ref an, .ref ae, .ref af, .ref ac, .int (nI es.length), .int (nI tg), .int szz, .int ld])), (an, .inl (E.2 1, 39, .inl (nA Nu))), (ae, .inl (E.2 1, 39, .inl (nA Ex))), (af, .inl (E.2 0, 4096, .inl (nA Fw))), (ac, .inl (E.2 1, 12, .inl (nA Ch)))] sz) := by
  refine Met.ofW (cc := cX0_choose) (maxL := 4) (ret := none) (by decide +kernel) rfl ?_
  intro p e s m args below meth c s₁ B hml hv
  obtain ⟨rfl, hsz, hP, hE, hD0⟩ := hv
  have hx := B.exec
  have hb := B.bytes
  have hr := B.returns
  have hts := atoms_spec (ws := wsX0_choose) B.pre
  have hown : s.vm.findClass RX0 = some m.cls := findClass_of_methodNamed B.named
  have hlocks := B.notSynchronized
  have hK := hE.1
  have hNN := hE.2.1
  have hinX0 : ∀ w ∈ wsX00, w ∈ wsX0_choose := fun w h => List.mem_cons_of_mem _ (List.mem_append_right _ h)
  subst hsz
  have hD := hD0.self (sz := s.heap.size)
  generalize hAe : va_A [(h0, .inr (0, [.ref an, .ref ae, .ref af, .ref ac, .int (nI es.length), .int (nI tg), .int szz, .int ld])), (an, .inl (E.2 1, 39, .inl (nA Nu))), (ae, .inl (E.2 1, 39, .inl (nA Ex))), (af, .inl (E.2 0, 4096, .inl (nA Fw))), (ac, .inl (E.2 1, 12, .inl (nA Ch)))] s.heap.size = A at hD ⊢
  have hA : ∀ q : Nat, s.heap.size ≤ q → A q := fun q h => by rw [← hAe]; exact Or.inr h
  have hS : va_S A s.heap s.heap [] := va_S.rf
  have hl := lv_entry ([.ref h0]) (n := 4) (Nat.le_of_ble_eq_true rfl)
  rw [lg_entry_eq]
  generalize (lg_sl ([.ref h0]) ++ List.replicate (4 - (lg_sl ([.ref h0])).length) Slot.unset).toArray = ls at hl ⊢
  have hl : lv_has ls 4 [(0, .ref h0)] := hl
  have h12 : Hf es tg ≤ 12 := Hf_feas es 12 tg htg htg2
  have htt : mdf tg tg = 0 := by simp [mdf]
  refine lv_aload_n hx hb dX0_choose_0 rfl (lv_at hl 0 rfl) ?_
  refine lv_iconst (v := 0) hx hb dX0_choose_1 (by decide) ?_
  refine va_put (D := E.1) (ci := 0) (v := .int 0) (ty := .int) (C := RX0) (T := TX0) (N := 8) hx hb hts hinX0 tyX0 tyX0_ok nmX0 hown hK hP hD hS 0 rfl rfl 6 (by decide) (hts (.fieldLink RX0 72 "WornRings$Heap" "size" "I") (by decide +kernel)) (fun _ h9 => h9) rfl (by decide +kernel) (rfl) (rfl) (Nat.le_of_ble_eq_true rfl) dX0_choose_2 (fun H locs hP hD hS => ?_)
  have hP : va_P E.1 vwCl [(h0, .inr (0, [.ref an, .ref ae, .ref af, .ref ac, .int (nI es.length), .int (nI tg), .int 0, .int ld])), (an, .inl (E.2 1, 39, .inl (nA Nu))), (ae, .inl (E.2 1, 39, .inl (nA Ex))), (af, .inl (E.2 0, 4096, .inl (nA Fw))), (ac, .inl (E.2 1, 12, .inl (nA Ch)))] H := hP
  have hD : va_D A [(h0, .inr (0, [.ref an, .ref ae, .ref af, .ref ac, .int (nI es.length), .int (nI tg), .int 0, .int ld])), (an, .inl (E.2 1, 39, .inl (nA Nu))), (ae, .inl (E.2 1, 39, .inl (nA Ex))), (af, .inl (E.2 0, 4096, .inl (nA Fw))), (ac, .inl (E.2 1, 12, .inl (nA Ch)))] := hD
  refine lv_aload_n hx hb dX0_choose_5 rfl (lv_at hl 0 rfl) ?_
  refine va_get (D := E.1) (ci := 0) (v := .int (nI tg)) (C := RX0) (T := TX0) (N := 8) hx hb hts hinX0 hown hK hP 0 rfl rfl 5 (by decide) (hts (.fieldLink RX0 43 "WornRings$Heap" "together" "I") (by decide +kernel)) (fun _ h9 => h9) rfl dX0_choose_6 ?_
  refine lv_istore_n (lv' := [(1, .int (nI tg)), (0, .ref h0)]) hx hb dX0_choose_9 rfl hl (by decide) rfl (fun ls hl => ?_)
  refine lv_iconst (v := 0) hx hb dX0_choose_10 (by decide) ?_
  refine lv_istore_n (lv' := [(2, .int 0), (1, .int (nI tg)), (0, .ref h0)]) hx hb dX0_choose_11 rfl hl (by decide) rfl (fun ls hl => ?_)
  refine (fun (lp12 : ∀ (n9 : Nat) (i : Nat) (o : Nat) (acc : List Nat) (Ch : Nat → Nat) (H : Heap) (locs : List Loc) (ls : Array Slot), (es.length - i) < n9 → (i ≤ es.length) → (mdf o tg = 0) → (o ≤ tg) → (RLs Ch acc) → (acc ++ chF (Hf es) ((ns.zip es).drop i) o = chF (Hf es) (ns.zip es) tg) → (acc.length + Hf es o = Hf es tg) → va_P E.1 vwCl [(h0, .inr (0, [.ref an, .ref ae, .ref af, .ref ac, .int (nI es.length), .int (nI tg), .int (nI acc.length), .int ld])), (an, .inl (E.2 1, 39, .inl (nA Nu))), (ae, .inl (E.2 1, 39, .inl (nA Ex))), (af, .inl (E.2 0, 4096, .inl (nA Fw))), (ac, .inl (E.2 1, 12, .inl (nA Ch)))] H → va_D A [(h0, .inr (0, [.ref an, .ref ae, .ref af, .ref ac, .int (nI es.length), .int (nI tg), .int (nI acc.length), .int ld])), (an, .inl (E.2 1, 39, .inl (nA Nu))), (ae, .inl (E.2 1, 39, .inl (nA Ex))), (af, .inl (E.2 0, 4096, .inl (nA Fw))), (ac, .inl (E.2 1, 12, .inl (nA Ch)))] → va_S A s.heap H locs → lv_has ls 4 [(0, .ref h0), (1, .int (nI o)), (2, .int (nI i))] → W p l e _ s m _ below meth c H locs _ _ _ (F0 m 12 ls [])) => lp12 (es.length + 1) 0 tg ([]) Ch _ _ _ (by omega) (by omega) (htt) (Nat.le_refl _) (fun j h9 => absurd h9 (Nat.not_lt_zero j)) (by simp) (by simp) (hP.sub [0, 1, 2, 3, 4] rfl) (hD.sub [0, 1, 2, 3, 4] (by decide) rfl) hS (lv_sub hl [2, 1, 0] rfl)) ?_
  intro n12
  induction n12 with
  | zero => intro i o acc Ch H locs ls h0; exact absurd (by assumption) (Nat.not_lt_zero _)
  | succ n12 ih12 =>
    intro i o acc Ch H locs ls hmu12 hi hso hot hRC hres hlen hP hD hS hl
    refine lv_iload_n hx hb dX0_choose_12 rfl (lv_at hl 2 rfl) ?_
    refine lv_aload_n hx hb dX0_choose_13 rfl (lv_at hl 0 rfl) ?_
    refine va_get (D := E.1) (ci := 0) (v := .int (nI es.length)) (C := RX0) (T := TX0) (N := 8) hx hb hts hinX0 hown hK hP 0 rfl rfl 4 (by decide) (hts (.fieldLink RX0 39 "WornRings$Heap" "candidates" "I") (by decide +kernel)) (fun _ h9 => h9) rfl dX0_choose_14 ?_
    refine lv_icmp_ge (tgt := 94) hx hb dX0_choose_17 (by decide) (fun c_17 => ?_) (fun c_17 => ?_)
    · have c_17 : es.length ≤ i := (nI_leI (a := es.length) (b := i) (by omega) (by omega)).mp c_17
      have e9r : chF (Hf es) (ns.zip es) tg = acc := by
        rw [← hres]
        first
          | rw [ch_end hln (by omega), List.append_nil]
          | (have eo : o = 0 := by omega
             subst eo; rw [ch_zero (Hf_z es), List.append_nil])
          | (have eo : o = 0 := Hf_pos es o (by omega)
             subst eo; rw [ch_zero (Hf_z es), List.append_nil])
      have e9 : ([(h0, .inr (0, [.ref an, .ref ae, .ref af, .ref ac, .int (nI es.length), .int (nI tg), .int (nI (chF (Hf es) (ns.zip es) tg).length), .int ld])), (an, .inl (E.2 1, 39, .inl (nA Nu))), (ae, .inl (E.2 1, 39, .inl (nA Ex))), (af, .inl (E.2 0, 4096, .inl (nA Fw))), (ac, .inl (E.2 1, 12, .inl (nA Ch)))] : va_W) = [(h0, .inr (0, [.ref an, .ref ae, .ref af, .ref ac, .int (nI es.length), .int (nI tg), .int (nI acc.length), .int ld])), (an, .inl (E.2 1, 39, .inl (nA Nu))), (ae, .inl (E.2 1, 39, .inl (nA Ex))), (af, .inl (E.2 0, 4096, .inl (nA Fw))), (ac, .inl (E.2 1, 12, .inl (nA Ch)))] := by rw [e9r]
      have hP9 : va_P E.1 vwCl [(h0, .inr (0, [.ref an, .ref ae, .ref af, .ref ac, .int (nI es.length), .int (nI tg), .int (nI (chF (Hf es) (ns.zip es) tg).length), .int ld])), (an, .inl (E.2 1, 39, .inl (nA Nu))), (ae, .inl (E.2 1, 39, .inl (nA Ex))), (af, .inl (E.2 0, 4096, .inl (nA Fw))), (ac, .inl (E.2 1, 12, .inl (nA Ch)))] H := by rw [e9]; exact hP.sub [0, 1, 2, 3, 4] rfl
      have hD9 : va_D A [(h0, .inr (0, [.ref an, .ref ae, .ref af, .ref ac, .int (nI es.length), .int (nI tg), .int (nI (chF (Hf es) (ns.zip es) tg).length), .int ld])), (an, .inl (E.2 1, 39, .inl (nA Nu))), (ae, .inl (E.2 1, 39, .inl (nA Ex))), (af, .inl (E.2 0, 4096, .inl (nA Fw))), (ac, .inl (E.2 1, 12, .inl (nA Ch)))] := by rw [e9]; exact hD.sub [0, 1, 2, 3, 4] (by decide) rfl
      exact W.vret hx hb hr (fun t9 ht9 hW9 => ⟨⟨(Ch), rfl, by rw [e9r]; exact hRC, ⟨by rw [ht9]; exact hP9, hD9⟩⟩, hS.F ht9⟩) hS.2.2 dX0_choose_94
    · have c_17 : ¬ es.length ≤ i := fun h9 => c_17 ((nI_leI (a := es.length) (b := i) (by omega) (by omega)).mpr h9)
      refine lv_iload_n hx hb dX0_choose_20 rfl (lv_at hl 1 rfl) ?_
      refine lv_if_eq (tgt := 94) hx hb dX0_choose_21 (by decide) (fun c_21 => ?_) (fun c_21 => ?_)
      · have c_21 : o = 0 := (nI_eq (a := o) (b := 0) (by omega) (by omega)).mp c_21
        have e9r : chF (Hf es) (ns.zip es) tg = acc := by
          rw [← hres]
          first
            | rw [ch_end hln (by omega), List.append_nil]
            | (have eo : o = 0 := by omega
               subst eo; rw [ch_zero (Hf_z es), List.append_nil])
            | (have eo : o = 0 := Hf_pos es o (by omega)
               subst eo; rw [ch_zero (Hf_z es), List.append_nil])
        have e9 : ([(h0, .inr (0, [.ref an, .ref ae, .ref af, .ref ac, .int (nI es.length), .int (nI tg), .int (nI (chF (Hf es) (ns.zip es) tg).length), .int ld])), (an, .inl (E.2 1, 39, .inl (nA Nu))), (ae, .inl (E.2 1, 39, .inl (nA Ex))), (af, .inl (E.2 0, 4096, .inl (nA Fw))), (ac, .inl (E.2 1, 12, .inl (nA Ch)))] : va_W) = [(h0, .inr (0, [.ref an, .ref ae, .ref af, .ref ac, .int (nI es.length), .int (nI tg), .int (nI acc.length), .int ld])), (an, .inl (E.2 1, 39, .inl (nA Nu))), (ae, .inl (E.2 1, 39, .inl (nA Ex))), (af, .inl (E.2 0, 4096, .inl (nA Fw))), (ac, .inl (E.2 1, 12, .inl (nA Ch)))] := by rw [e9r]
        have hP9 : va_P E.1 vwCl [(h0, .inr (0, [.ref an, .ref ae, .ref af, .ref ac, .int (nI es.length), .int (nI tg), .int (nI (chF (Hf es) (ns.zip es) tg).length), .int ld])), (an, .inl (E.2 1, 39, .inl (nA Nu))), (ae, .inl (E.2 1, 39, .inl (nA Ex))), (af, .inl (E.2 0, 4096, .inl (nA Fw))), (ac, .inl (E.2 1, 12, .inl (nA Ch)))] H := by rw [e9]; exact hP.sub [0, 1, 2, 3, 4] rfl
        have hD9 : va_D A [(h0, .inr (0, [.ref an, .ref ae, .ref af, .ref ac, .int (nI es.length), .int (nI tg), .int (nI (chF (Hf es) (ns.zip es) tg).length), .int ld])), (an, .inl (E.2 1, 39, .inl (nA Nu))), (ae, .inl (E.2 1, 39, .inl (nA Ex))), (af, .inl (E.2 0, 4096, .inl (nA Fw))), (ac, .inl (E.2 1, 12, .inl (nA Ch)))] := by rw [e9]; exact hD.sub [0, 1, 2, 3, 4] (by decide) rfl
        exact W.vret hx hb hr (fun t9 ht9 hW9 => ⟨⟨(Ch), rfl, by rw [e9r]; exact hRC, ⟨by rw [ht9]; exact hP9, hD9⟩⟩, hS.F ht9⟩) hS.2.2 dX0_choose_94
      · have c_21 : ¬ o = 0 := fun h9 => c_21 ((nI_eq (a := o) (b := 0) (by omega) (by omega)).mpr h9)
        refine lv_aload_n hx hb dX0_choose_24 rfl (lv_at hl 0 rfl) ?_
        refine va_get (D := E.1) (ci := 0) (v := .int (nI acc.length)) (C := RX0) (T := TX0) (N := 8) hx hb hts hinX0 hown hK hP 0 rfl rfl 6 (by decide) (hts (.fieldLink RX0 72 "WornRings$Heap" "size" "I") (by decide +kernel)) (fun _ h9 => h9) rfl dX0_choose_25 ?_
        refine lv_bipush (v := 12) hx hb dX0_choose_28 (by decide) ?_
        refine lv_icmp_ge (tgt := 94) hx hb dX0_choose_30 (by decide) (fun c_30 => ?_) (fun c_30 => ?_)
        · have c_30 : 12 ≤ acc.length := (nI_leI (a := 12) (b := acc.length) (by omega) (by omega)).mp c_30
          have e9r : chF (Hf es) (ns.zip es) tg = acc := by
            rw [← hres]
            first
              | rw [ch_end hln (by omega), List.append_nil]
              | (have eo : o = 0 := by omega
                 subst eo; rw [ch_zero (Hf_z es), List.append_nil])
              | (have eo : o = 0 := Hf_pos es o (by omega)
                 subst eo; rw [ch_zero (Hf_z es), List.append_nil])
          have e9 : ([(h0, .inr (0, [.ref an, .ref ae, .ref af, .ref ac, .int (nI es.length), .int (nI tg), .int (nI (chF (Hf es) (ns.zip es) tg).length), .int ld])), (an, .inl (E.2 1, 39, .inl (nA Nu))), (ae, .inl (E.2 1, 39, .inl (nA Ex))), (af, .inl (E.2 0, 4096, .inl (nA Fw))), (ac, .inl (E.2 1, 12, .inl (nA Ch)))] : va_W) = [(h0, .inr (0, [.ref an, .ref ae, .ref af, .ref ac, .int (nI es.length), .int (nI tg), .int (nI acc.length), .int ld])), (an, .inl (E.2 1, 39, .inl (nA Nu))), (ae, .inl (E.2 1, 39, .inl (nA Ex))), (af, .inl (E.2 0, 4096, .inl (nA Fw))), (ac, .inl (E.2 1, 12, .inl (nA Ch)))] := by rw [e9r]
          have hP9 : va_P E.1 vwCl [(h0, .inr (0, [.ref an, .ref ae, .ref af, .ref ac, .int (nI es.length), .int (nI tg), .int (nI (chF (Hf es) (ns.zip es) tg).length), .int ld])), (an, .inl (E.2 1, 39, .inl (nA Nu))), (ae, .inl (E.2 1, 39, .inl (nA Ex))), (af, .inl (E.2 0, 4096, .inl (nA Fw))), (ac, .inl (E.2 1, 12, .inl (nA Ch)))] H := by rw [e9]; exact hP.sub [0, 1, 2, 3, 4] rfl
          have hD9 : va_D A [(h0, .inr (0, [.ref an, .ref ae, .ref af, .ref ac, .int (nI es.length), .int (nI tg), .int (nI (chF (Hf es) (ns.zip es) tg).length), .int ld])), (an, .inl (E.2 1, 39, .inl (nA Nu))), (ae, .inl (E.2 1, 39, .inl (nA Ex))), (af, .inl (E.2 0, 4096, .inl (nA Fw))), (ac, .inl (E.2 1, 12, .inl (nA Ch)))] := by rw [e9]; exact hD.sub [0, 1, 2, 3, 4] (by decide) rfl
          exact W.vret hx hb hr (fun t9 ht9 hW9 => ⟨⟨(Ch), rfl, by rw [e9r]; exact hRC, ⟨by rw [ht9]; exact hP9, hD9⟩⟩, hS.F ht9⟩) hS.2.2 dX0_choose_94
        · have c_30 : ¬ 12 ≤ acc.length := fun h9 => c_30 ((nI_leI (a := 12) (b := acc.length) (by omega) (by omega)).mpr h9)
          refine lv_iload_n hx hb dX0_choose_33 rfl (lv_at hl 1 rfl) ?_
          refine lv_aload_n hx hb dX0_choose_34 rfl (lv_at hl 0 rfl) ?_
          refine va_get (D := E.1) (ci := 0) (v := .ref ae) (C := RX0) (T := TX0) (N := 8) hx hb hts hinX0 hown hK hP 0 rfl rfl 1 (by decide) (hts (.fieldLink RX0 15 "WornRings$Heap" "explained" "[I") (by decide +kernel)) (fun _ h9 => h9) rfl dX0_choose_35 ?_
          refine lv_iload_n hx hb dX0_choose_38 rfl (lv_at hl 2 rfl) ?_
          refine va_iald hx hb hK hP 2 1 rfl rfl (vp_in_nI (by omega) (by omega)) dX0_choose_39 ?_
          rw [nI_clamp (n := i) (by omega)]
          refine W.eq (g2 := F0 m 40 ls [.int (nI (Ex i)), .int (nI o)]) rfl ?_
          refine lv_iconst (v := (-1)) hx hb dX0_choose_40 (by decide) ?_
          refine lv_ixor hx hb dX0_choose_41 ?_
          refine lv_iand hx hb dX0_choose_42 ?_
          rw [show ((nI o) &&& ((nI (Ex i)) ^^^ (-1)) : Int32) = nI (mdf o (Ex i)) from xx_diff _ _]
          have h7 := mdf_le o (Ex i)
          refine lv_istore_n (lv' := [(3, .int (nI (mdf o (Ex i)))), (0, .ref h0), (1, .int (nI o)), (2, .int (nI i))]) hx hb dX0_choose_43 rfl hl (by decide) rfl (fun ls hl => ?_)
          refine lv_aload_n hx hb dX0_choose_44 rfl (lv_at hl 1 rfl) ?_
          refine va_get (D := E.1) (ci := 0) (v := .ref af) (C := RX0) (T := TX0) (N := 8) hx hb hts hinX0 hown hK hP 0 rfl rfl 2 (by decide) (hts (.fieldLink RX0 18 "WornRings$Heap" "fewest" "[B") (by decide +kernel)) (fun _ h9 => h9) rfl dX0_choose_45 ?_
          refine lv_iload_n hx hb dX0_choose_48 rfl (lv_at hl 0 rfl) ?_
          refine va_bald hx hb hK hP 3 0 rfl rfl (vp_in_nI (by omega) (by omega)) dX0_choose_49 ?_
          rw [nI_clamp (n := mdf o (Ex i)) (by omega)]
          refine W.eq (g2 := F0 m 50 ls [.int (nI (Fw (mdf o (Ex i))))]) rfl ?_
          refine lv_iconst (v := 1) hx hb dX0_choose_50 (by decide) ?_
          refine lv_iadd hx hb dX0_choose_51 ?_
          rw [show ((nI (Fw (mdf o (Ex i)))) + (1 : Int32) : Int32) = nI ((Fw (mdf o (Ex i))) + 1) from nI_add (Fw (mdf o (Ex i))) 1]
          refine lv_aload_n hx hb dX0_choose_52 rfl (lv_at hl 1 rfl) ?_
          refine va_get (D := E.1) (ci := 0) (v := .ref af) (C := RX0) (T := TX0) (N := 8) hx hb hts hinX0 hown hK hP 0 rfl rfl 2 (by decide) (hts (.fieldLink RX0 18 "WornRings$Heap" "fewest" "[B") (by decide +kernel)) (fun _ h9 => h9) rfl dX0_choose_53 ?_
          refine lv_iload_n hx hb dX0_choose_56 rfl (lv_at hl 2 rfl) ?_
          refine va_bald hx hb hK hP 3 0 rfl rfl (vp_in_nI (by omega) (by omega)) dX0_choose_57 ?_
          rw [nI_clamp (n := o) (by omega)]
          refine W.eq (g2 := F0 m 58 ls [.int (nI (Fw o)), .int (nI ((Fw (mdf o (Ex i))) + 1))]) rfl ?_
          have e1 := hbF (mdf o (Ex i))
          have e2 := hbF o
          have e3 := hF (mdf o (Ex i)) (by omega) (sub_mdf _ hso)
          have e4 := hF o hot hso
          refine lv_icmp_ne (tgt := 88) hx hb dX0_choose_58 (by decide) (fun c_58 => ?_) (fun c_58 => ?_)
          · have c_58 : ¬ ((Fw (mdf o (Ex i))) + 1) = (Fw o) := fun h9 => c_58 ((nI_eq (a := (Fw (mdf o (Ex i))) + 1) (b := Fw o) (by omega) (by omega)).mpr h9)
            have e58 : ¬ Hf es (mdf o (es.getD i 0)) + 1 = Hf es o := by rw [← hR i (by omega), ← e3, ← e4]; exact c_58
            refine lv_iinc (v := nI (i + 1)) (lv' := [(2, .int (nI (i + 1))), (3, .int (nI (mdf o (Ex i)))), (0, .ref h0), (1, .int (nI o))]) hx hb dX0_choose_88 hl (k := 3) rfl (nI_add i 1) (by decide) rfl (fun ls hl => ?_)
            refine lv_goto (tgt := 12) hx hb dX0_choose_91 (by decide) ?_
            exact ih12 (i + 1) o acc Ch _ _ _ (by omega) (by omega) (hso) (hot) (hRC) (by rw [← hres, ch_skip hln (by omega) e58]) (hlen) (hP.sub [0, 1, 2, 3, 4] rfl) (hD.sub [0, 1, 2, 3, 4] (by decide) rfl) hS (lv_sub hl [2, 3, 0] rfl)
          · have c_58 : ((Fw (mdf o (Ex i))) + 1) = (Fw o) := (nI_eq (a := (Fw (mdf o (Ex i))) + 1) (b := Fw o) (by omega) (by omega)).mp c_58
            have e58 : Hf es (mdf o (es.getD i 0)) + 1 = Hf es o := by rw [← hR i (by omega), ← e3, ← e4]; exact c_58
            have hnb9 := hnb i (by omega)
            refine lv_aload_n hx hb dX0_choose_61 rfl (lv_at hl 1 rfl) ?_
            refine va_get (D := E.1) (ci := 0) (v := .ref ac) (C := RX0) (T := TX0) (N := 8) hx hb hts hinX0 hown hK hP 0 rfl rfl 3 (by decide) (hts (.fieldLink RX0 22 "WornRings$Heap" "chosen" "[I") (by decide +kernel)) (fun _ h9 => h9) rfl dX0_choose_62 ?_
            refine lv_aload_n hx hb dX0_choose_65 rfl (lv_at hl 1 rfl) ?_
            refine va_get (D := E.1) (ci := 0) (v := .int (nI acc.length)) (C := RX0) (T := TX0) (N := 8) hx hb hts hinX0 hown hK hP 0 rfl rfl 6 (by decide) (hts (.fieldLink RX0 72 "WornRings$Heap" "size" "I") (by decide +kernel)) (fun _ h9 => h9) rfl dX0_choose_66 ?_
            refine lv_aload_n hx hb dX0_choose_69 rfl (lv_at hl 1 rfl) ?_
            refine va_get (D := E.1) (ci := 0) (v := .ref an) (C := RX0) (T := TX0) (N := 8) hx hb hts hinX0 hown hK hP 0 rfl rfl 0 (by decide) (hts (.fieldLink RX0 9 "WornRings$Heap" "numbers" "[I") (by decide +kernel)) (fun _ h9 => h9) rfl dX0_choose_70 ?_
            refine lv_iload_n hx hb dX0_choose_73 rfl (lv_at hl 3 rfl) ?_
            refine va_iald hx hb hK hP 1 1 rfl rfl (vp_in_nI (by omega) (by omega)) dX0_choose_74 ?_
            rw [nI_clamp (n := i) (by omega)]
            refine W.eq (g2 := F0 m 75 ls [.int (nI (Nu i)), .int (nI acc.length), .ref ac]) rfl ?_
            refine va_iast hx hb hK hP hD hS 4 1 rfl rfl (vp_in_nI (by omega) (by omega)) dX0_choose_75 (fun H locs hP hD hS => ?_)
            rw [nI_clamp (n := acc.length) (by omega)] at hP hD
            rw [show upd (nA Ch) acc.length (nI (Nu i)) = nA (updN Ch acc.length (Nu i)) from upd_nA _ _ _] at hP hD
            have hP : va_P E.1 vwCl [(h0, .inr (0, [.ref an, .ref ae, .ref af, .ref ac, .int (nI es.length), .int (nI tg), .int (nI acc.length), .int ld])), (an, .inl (E.2 1, 39, .inl (nA Nu))), (ae, .inl (E.2 1, 39, .inl (nA Ex))), (af, .inl (E.2 0, 4096, .inl (nA Fw))), (ac, .inl (E.2 1, 12, .inl (nA (updN Ch acc.length (Nu i)))))] H := hP
            have hD : va_D A [(h0, .inr (0, [.ref an, .ref ae, .ref af, .ref ac, .int (nI es.length), .int (nI tg), .int (nI acc.length), .int ld])), (an, .inl (E.2 1, 39, .inl (nA Nu))), (ae, .inl (E.2 1, 39, .inl (nA Ex))), (af, .inl (E.2 0, 4096, .inl (nA Fw))), (ac, .inl (E.2 1, 12, .inl (nA (updN Ch acc.length (Nu i)))))] := hD
            refine lv_aload_n hx hb dX0_choose_76 rfl (lv_at hl 1 rfl) ?_
            refine lv_dup hx hb dX0_choose_77 rfl ?_
            refine va_get (D := E.1) (ci := 0) (v := .int (nI acc.length)) (C := RX0) (T := TX0) (N := 8) hx hb hts hinX0 hown hK hP 0 rfl rfl 6 (by decide) (hts (.fieldLink RX0 72 "WornRings$Heap" "size" "I") (by decide +kernel)) (fun _ h9 => h9) rfl dX0_choose_78 ?_
            refine lv_iconst (v := 1) hx hb dX0_choose_81 (by decide) ?_
            refine lv_iadd hx hb dX0_choose_82 ?_
            rw [show ((nI acc.length) + (1 : Int32) : Int32) = nI (acc.length + 1) from nI_add acc.length 1]
            refine va_put (D := E.1) (ci := 0) (v := .int (nI (acc.length + 1))) (ty := .int) (C := RX0) (T := TX0) (N := 8) hx hb hts hinX0 tyX0 tyX0_ok nmX0 hown hK hP hD hS 0 rfl rfl 6 (by decide) (hts (.fieldLink RX0 72 "WornRings$Heap" "size" "I") (by decide +kernel)) (fun _ h9 => h9) rfl (by decide +kernel) (rfl) (rfl) (Nat.le_of_ble_eq_true rfl) dX0_choose_83 (fun H locs hP hD hS => ?_)
            have hP : va_P E.1 vwCl [(h0, .inr (0, [.ref an, .ref ae, .ref af, .ref ac, .int (nI es.length), .int (nI tg), .int (nI (acc.length + 1)), .int ld])), (an, .inl (E.2 1, 39, .inl (nA Nu))), (ae, .inl (E.2 1, 39, .inl (nA Ex))), (af, .inl (E.2 0, 4096, .inl (nA Fw))), (ac, .inl (E.2 1, 12, .inl (nA (updN Ch acc.length (Nu i)))))] H := hP
            have hD : va_D A [(h0, .inr (0, [.ref an, .ref ae, .ref af, .ref ac, .int (nI es.length), .int (nI tg), .int (nI (acc.length + 1)), .int ld])), (an, .inl (E.2 1, 39, .inl (nA Nu))), (ae, .inl (E.2 1, 39, .inl (nA Ex))), (af, .inl (E.2 0, 4096, .inl (nA Fw))), (ac, .inl (E.2 1, 12, .inl (nA (updN Ch acc.length (Nu i)))))] := hD
            refine lv_iload_n hx hb dX0_choose_86 rfl (lv_at hl 0 rfl) ?_
            refine lv_istore_n (lv' := [(1, .int (nI (mdf o (Ex i)))), (3, .int (nI (mdf o (Ex i)))), (0, .ref h0), (2, .int (nI i))]) hx hb dX0_choose_87 rfl hl (by decide) rfl (fun ls hl => ?_)
            refine lv_iinc (v := nI (i + 1)) (lv' := [(2, .int (nI (i + 1))), (1, .int (nI (mdf o (Ex i)))), (3, .int (nI (mdf o (Ex i)))), (0, .ref h0)]) hx hb dX0_choose_88 hl (k := 3) rfl (nI_add i 1) (by decide) rfl (fun ls hl => ?_)
            refine lv_goto (tgt := 12) hx hb dX0_choose_91 (by decide) ?_
            exact ih12 (i + 1) (mdf o (Ex i)) (acc ++ [Nu i]) (updN Ch acc.length (Nu i)) _ _ _ (by omega) (by omega) (sub_mdf _ hso) (Nat.le_trans (mdf_le _ _) hot) (RLs_push hRC) (by
        rw [← hres, ch_take hln (by omega) e58, ← hR i (by omega), ← hRN i (by omega)]; simp) (by rw [List.length_append]; simp only [List.length_cons, List.length_nil]; rw [← hR i (by omega)] at e58; omega) (by rw [List.length_append]; exact hP.sub [0, 1, 2, 3, 4] rfl) (by rw [List.length_append]; exact hD.sub [0, 1, 2, 3, 4] (by decide) rfl) hS (lv_sub hl [3, 1, 0] rfl)
