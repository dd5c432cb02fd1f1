/-! WornRings: marks, sheets, means -/
theorem le_lh {t n st : Nat} (ht : t ≤ 2000000) (hn : n ≤ 200) (hs1 : 1 ≤ st) (hs : st ≤ 1000) : nI t ≤ (nI n - 1) * nI st ↔ (1 ≤ n ∧ t ≤ (n - 1) * st) := by
  rcases Nat.eq_zero_or_pos n with e | e
  · subst e
    constructor
    · intro h
      exfalso
      have h1 : (nI 0 - 1) * nI st = -(nI st) := by
        rw [show nI 0 - 1 = (-1 : Int32) from by decide, Int32.neg_mul, Int32.one_mul]
      rw [h1, Int32.le_iff_toInt_le, sb_negT (by omega), nI_toInt (by omega)] at h
      omega
    · intro h; omega
  · have hb : (n - 1) * st ≤ 199 * 1000 := Nat.mul_le_mul (by omega) hs
    rw [lh_eq e]
    constructor
    · intro h; exact ⟨e, (nI_leI (by omega) (by omega)).mp h⟩
    · intro h; exact nI_le h.2 (by omega)

set_option maxHeartbeats 1000000 in
set_option maxRecDepth 100000 in
theorem c_X8_mark_no (l : Launch) (E : EnvT) (sz : Nat) (g0 : Nat) (gm : Nat) (gk : Nat) (gs : Nat) (ga : Nat) (gl : Nat) (gh : Nat) (gd : Nat) (wA : Int32) (wB : Int32) (wU : Int32) (a0 : Nat) (L : List Nat) (k : Nat) (lt : Nat) (M : Nat → Nat) (tv : Int32) (hR : RLs M L) (hL : L.length ≤ 120) (hic : ∀ j, j + 1 < L.length → M j < M (j + 1)) (hbd : ∀ j, j < L.length → M j ≤ 1000000) (hlt : lt ≤ 1000000) (hk : k ≤ 60) (hla : 2 ≤ L.length → L.length < 120 → 0 < k ∧ M (L.length - 1) = lt) (hno : ¬ ((0 ≤ tv ∧ tv ≤ 1000000) ∧ ¬ (0 < k ∧ tv ≤ nI lt)) ∨ 60 ≤ k) : Met l yX8_mark wsX8_mark ({ frames := 2, cells := 0, slots := 0, locals := 43 }) (va_Pc [.ref g0, .int tv] (PW E [(g0, .inr (8, [.ref gm, .ref gk, .ref gs, .ref ga, .ref gl, .ref gh, .ref gd, .int wA, .int wB, .int wU])), (gk, .inr (4, [.ref a0, .int (nI L.length), .int (nI k), .int (nI lt)])), (a0, .inl (E.2 1, 120, .inl (nA M)))] sz)) (va_Qi (fun (r : Int32) (uu : Unit) => r = if (0 ≤ tv ∧ tv ≤ 1000000) ∧ ¬ (0 < k ∧ tv ≤ nI lt) then -3 else -1) (fun (uu : Unit) t => BW E (va_A [(g0, .inr (8, [.ref gm, .ref gk, .ref gs, .ref ga, .ref gl, .ref gh, .ref gd, .int wA, .int wB, .int wU])), (gk, .inr (4, [.ref a0, .int (nI L.length), .int (nI k), .int (nI lt)])), (a0, .inl (E.2 1, 120, .inl (nA M)))] sz) [(g0, .inr (8, [.ref gm, .ref gk, .ref gs, .ref ga, .ref gl, .ref gh, .ref gd, .int wA, .int wB, .int wU])), (gk, .inr (4, [.ref a0, .int (nI L.length), .int (nI k), .int (nI lt)])), (a0, .inl (E.2 1, 120, .inl (nA M)))] t) (va_A [(g0, .inr (8, [.ref gm, .ref gk, .ref gs, .ref ga, .ref gl, .ref gh, .ref gd, .int wA, .int wB, .int wU])), (gk, .inr (4, [.ref a0, .int (nI L.length), .int (nI k), .int (nI lt)])), (a0, .inl (E.2 1, 120, .inl (nA M)))] sz)) 0 0 (va_A [(g0, .inr (8, [.ref gm, .ref gk, .ref gs, .ref ga, .ref gl, .ref gh, .ref gd, .int wA, .int wB, .int wU])), (gk, .inr (4, [.ref a0, .int (nI L.length), .int (nI k), .int (nI lt)])), (a0, .inl (E.2 1, 120, .inl (nA M)))] sz) := by
  refine Met.ofW (cc := cX8_mark) (maxL := 2) (ret := (some .int)) (by decide +kernel) rfl ?_
  intro p e s m args below meth c s₁ B hml hv
  obtain ⟨rfl, hsz, hP, hE, hD0⟩ := hv
  have hx := B.exec
  have hb := B.bytes
  have hr := B.returns
  have hts := atoms_spec (ws := wsX8_mark) B.pre
  have hown : s.vm.findClass RX8 = some m.cls := findClass_of_methodNamed B.named
  have hlocks := B.notSynchronized
  have hK := hE.1
  have hNN := hE.2.1
  have hinX8 : ∀ w ∈ wsX80, w ∈ wsX8_mark := fun w h => List.mem_cons_of_mem _ (List.mem_append_left _ (List.mem_append_right _ h))
  subst hsz
  have hD := hD0.self (sz := s.heap.size)
  generalize hAe : va_A [(g0, .inr (8, [.ref gm, .ref gk, .ref gs, .ref ga, .ref gl, .ref gh, .ref gd, .int wA, .int wB, .int wU])), (gk, .inr (4, [.ref a0, .int (nI L.length), .int (nI k), .int (nI lt)])), (a0, .inl (E.2 1, 120, .inl (nA M)))] s.heap.size = A at hD ⊢
  have hA : ∀ q : Nat, s.heap.size ≤ q → A q := fun q h => by rw [← hAe]; exact Or.inr h
  have hS : va_S A s.heap s.heap [] := va_S.rf
  have hl := lv_entry ([.ref g0, .int tv]) (n := 2) (Nat.le_of_ble_eq_true rfl)
  rw [lg_entry_eq]
  generalize (lg_sl ([.ref g0, .int tv]) ++ List.replicate (2 - (lg_sl ([.ref g0, .int tv])).length) Slot.unset).toArray = ls at hl ⊢
  have hl : lv_has ls 2 [(0, .ref g0), (1, .int tv)] := hl
  refine lv_aload_n hx hb dX8_mark_0 rfl (lv_at hl 0 rfl) ?_
  refine va_get (D := E.1) (ci := 8) (v := .ref gk) (C := RX8) (T := TX8) (N := 10) hx hb hts hinX8 hown hK hP 0 rfl rfl 1 (by decide) (hts (.fieldLink RX8 19 "WornRings" "marks" "LWornRings$Marks;") (by decide +kernel)) (fun _ h9 => h9) rfl dX8_mark_1 ?_
  refine lv_iload_n hx hb dX8_mark_4 rfl (lv_at hl 1 rfl) ?_
  refine wVi (wr := [(g0, .inr (8, [.ref gm, .ref gk, .ref gs, .ref ga, .ref gl, .ref gh, .ref gd, .int wA, .int wB, .int wU]))]) hE ⟨hx, hb, hml, hown, hts⟩ (c_X4_add_no l E s.heap.size gk a0 L k lt M tv (hR) (hL) (hic) (hbd) (hlt) (hk) (hla) (hno)) (cwV 1 hts gX8_mark_X4_add rfl rfl rfl (by decide +kernel) ⟨Nat.le_of_ble_eq_true rfl, Nat.le_of_ble_eq_true rfl⟩) hP hD hS hA [1, 2] [0] rfl rfl (by decide) (by decide) (by decide) 0 4 rfl rfl rfl hl.1 rfl (Nat.le_of_ble_eq_true rfl) dX8_mark_5 ⟨(Nat.zero_le _), (Nat.zero_le _)⟩ (fun r_5 u H locs hw hP hD hS => ?_)
  have hP : va_P E.1 vwCl [(g0, .inr (8, [.ref gm, .ref gk, .ref gs, .ref ga, .ref gl, .ref gh, .ref gd, .int wA, .int wB, .int wU])), (gk, .inr (4, [.ref a0, .int (nI L.length), .int (nI k), .int (nI lt)])), (a0, .inl (E.2 1, 120, .inl (nA M)))] H := hP
  have hD : va_D A [(g0, .inr (8, [.ref gm, .ref gk, .ref gs, .ref ga, .ref gl, .ref gh, .ref gd, .int wA, .int wB, .int wU])), (gk, .inr (4, [.ref a0, .int (nI L.length), .int (nI k), .int (nI lt)])), (a0, .inl (E.2 1, 120, .inl (nA M)))] := hD
  rw [hw]
  have hP9 : va_P E.1 vwCl [(g0, .inr (8, [.ref gm, .ref gk, .ref gs, .ref ga, .ref gl, .ref gh, .ref gd, .int wA, .int wB, .int wU])), (gk, .inr (4, [.ref a0, .int (nI L.length), .int (nI k), .int (nI lt)])), (a0, .inl (E.2 1, 120, .inl (nA M)))] H := hP.sub [0, 1, 2] rfl
  have hD9 : va_D A [(g0, .inr (8, [.ref gm, .ref gk, .ref gs, .ref ga, .ref gl, .ref gh, .ref gd, .int wA, .int wB, .int wU])), (gk, .inr (4, [.ref a0, .int (nI L.length), .int (nI k), .int (nI lt)])), (a0, .inl (E.2 1, 120, .inl (nA M)))] := hD.sub [0, 1, 2] (by decide) rfl
  exact W.iret (v := if (0 ≤ tv ∧ tv ≤ 1000000) ∧ ¬ (0 < k ∧ tv ≤ nI lt) then -3 else -1) hx hb hr (fun t9 ht9 hW9 => ⟨⟨if (0 ≤ tv ∧ tv ≤ 1000000) ∧ ¬ (0 < k ∧ tv ≤ nI lt) then -3 else -1, (), rfl, rfl, ⟨by rw [ht9]; exact hP9, hD9⟩⟩, hS.F ht9⟩) hS.2.2 dX8_mark_8
set_option maxHeartbeats 1000000 in
set_option maxRecDepth 100000 in
theorem c_X8_mark_yes (l : Launch) (E : EnvT) (sz : Nat) (g0 : Nat) (gm : Nat) (gk : Nat) (gs : Nat) (ga : Nat) (gl : Nat) (gh : Nat) (gd : Nat) (wA : Int32) (wB : Int32) (wU : Int32) (a0 : Nat) (L : List Nat) (k : Nat) (lt : Nat) (M : Nat → Nat) (x : Nat) (hR : RLs M L) (hL : L.length ≤ 120) (hic : ∀ j, j + 1 < L.length → M j < M (j + 1)) (hbd : ∀ j, j < L.length → M j ≤ 1000000) (hlt : lt ≤ 1000000) (hk : k ≤ 60) (hla : 2 ≤ L.length → L.length < 120 → 0 < k ∧ M (L.length - 1) = lt) (hx1 : x ≤ 1000000) (hx2 : 0 < k → lt < x) (hk6 : k < 60) : Met l yX8_mark wsX8_mark ({ frames := 3, cells := 0, slots := 0, locals := 68 }) (va_Pc [.ref g0, .int (nI x)] (PW E [(g0, .inr (8, [.ref gm, .ref gk, .ref gs, .ref ga, .ref gl, .ref gh, .ref gd, .int wA, .int wB, .int wU])), (gk, .inr (4, [.ref a0, .int (nI L.length), .int (nI k), .int (nI lt)])), (a0, .inl (E.2 1, 120, .inl (nA M)))] sz)) (va_Qi (fun (r : Int32) (uu : (Nat → Nat)) => r = nI (k + 1) ∧ (RLs uu (adL L x))) (fun (uu : (Nat → Nat)) t => BW E (va_A [(g0, .inr (8, [.ref gm, .ref gk, .ref gs, .ref ga, .ref gl, .ref gh, .ref gd, .int wA, .int wB, .int wU])), (gk, .inr (4, [.ref a0, .int (nI L.length), .int (nI k), .int (nI lt)])), (a0, .inl (E.2 1, 120, .inl (nA M)))] sz) [(g0, .inr (8, [.ref gm, .ref gk, .ref gs, .ref ga, .ref gl, .ref gh, .ref gd, .int wA, .int wB, .int wU])), (gk, .inr (4, [.ref a0, .int (nI (adL L x).length), .int (nI (k + 1)), .int (nI x)])), (a0, .inl (E.2 1, 120, .inl (nA uu)))] t) (va_A [(g0, .inr (8, [.ref gm, .ref gk, .ref gs, .ref ga, .ref gl, .ref gh, .ref gd, .int wA, .int wB, .int wU])), (gk, .inr (4, [.ref a0, .int (nI L.length), .int (nI k), .int (nI lt)])), (a0, .inl (E.2 1, 120, .inl (nA M)))] sz)) 0 0 (va_A [(g0, .inr (8, [.ref gm, .ref gk, .ref gs, .ref ga, .ref gl, .ref gh, .ref gd, .int wA, .int wB, .int wU])), (gk, .inr (4, [.ref a0, .int (nI L.length), .int (nI k), .int (nI lt)])), (a0, .inl (E.2 1, 120, .inl (nA M)))] sz) := by
  refine Met.ofW (cc := cX8_mark) (maxL := 2) (ret := (some .int)) (by decide +kernel) rfl ?_
  intro p e s m args below meth c s₁ B hml hv
  obtain ⟨rfl, hsz, hP, hE, hD0⟩ := hv
  have hx := B.exec
  have hb := B.bytes
  have hr := B.returns
  have hts := atoms_spec (ws := wsX8_mark) B.pre
  have hown : s.vm.findClass RX8 = some m.cls := findClass_of_methodNamed B.named
  have hlocks := B.notSynchronized
  have hK := hE.1
  have hNN := hE.2.1
  have hinX8 : ∀ w ∈ wsX80, w ∈ wsX8_mark := fun w h => List.mem_cons_of_mem _ (List.mem_append_left _ (List.mem_append_right _ h))
  subst hsz
  have hD := hD0.self (sz := s.heap.size)
  generalize hAe : va_A [(g0, .inr (8, [.ref gm, .ref gk, .ref gs, .ref ga, .ref gl, .ref gh, .ref gd, .int wA, .int wB, .int wU])), (gk, .inr (4, [.ref a0, .int (nI L.length), .int (nI k), .int (nI lt)])), (a0, .inl (E.2 1, 120, .inl (nA M)))] s.heap.size = A at hD ⊢
  have hA : ∀ q : Nat, s.heap.size ≤ q → A q := fun q h => by rw [← hAe]; exact Or.inr h
  have hS : va_S A s.heap s.heap [] := va_S.rf
  have hl := lv_entry ([.ref g0, .int (nI x)]) (n := 2) (Nat.le_of_ble_eq_true rfl)
  rw [lg_entry_eq]
  generalize (lg_sl ([.ref g0, .int (nI x)]) ++ List.replicate (2 - (lg_sl ([.ref g0, .int (nI x)])).length) Slot.unset).toArray = ls at hl ⊢
  have hl : lv_has ls 2 [(0, .ref g0), (1, .int (nI x))] := hl
  refine lv_aload_n hx hb dX8_mark_0 rfl (lv_at hl 0 rfl) ?_
  refine va_get (D := E.1) (ci := 8) (v := .ref gk) (C := RX8) (T := TX8) (N := 10) hx hb hts hinX8 hown hK hP 0 rfl rfl 1 (by decide) (hts (.fieldLink RX8 19 "WornRings" "marks" "LWornRings$Marks;") (by decide +kernel)) (fun _ h9 => h9) rfl dX8_mark_1 ?_
  refine lv_iload_n hx hb dX8_mark_4 rfl (lv_at hl 1 rfl) ?_
  refine wVi (wr := [(g0, .inr (8, [.ref gm, .ref gk, .ref gs, .ref ga, .ref gl, .ref gh, .ref gd, .int wA, .int wB, .int wU]))]) hE ⟨hx, hb, hml, hown, hts⟩ (c_X4_add_yes l E s.heap.size gk a0 L k lt M x (hR) (hL) (hic) (hbd) (hlt) (hk) (hla) (hx1) (hx2) (hk6)) (cwV 1 hts gX8_mark_X4_add rfl rfl rfl (by decide +kernel) ⟨Nat.le_of_ble_eq_true rfl, Nat.le_of_ble_eq_true rfl⟩) hP hD hS hA [1, 2] [0] rfl rfl (by decide) (by decide) (by decide) 0 4 rfl rfl rfl hl.1 rfl (Nat.le_of_ble_eq_true rfl) dX8_mark_5 ⟨(Nat.zero_le _), (Nat.zero_le _)⟩ (fun r_5 u H locs hw hP hD hS => ?_)
  obtain ⟨M2_5, rfl⟩ : ∃ z, z = u := ⟨_, rfl⟩
  have hP : va_P E.1 vwCl [(g0, .inr (8, [.ref gm, .ref gk, .ref gs, .ref ga, .ref gl, .ref gh, .ref gd, .int wA, .int wB, .int wU])), (gk, .inr (4, [.ref a0, .int (nI (adL L x).length), .int (nI (k + 1)), .int (nI x)])), (a0, .inl (E.2 1, 120, .inl (nA M2_5)))] H := hP
  have hD : va_D A [(g0, .inr (8, [.ref gm, .ref gk, .ref gs, .ref ga, .ref gl, .ref gh, .ref gd, .int wA, .int wB, .int wU])), (gk, .inr (4, [.ref a0, .int (nI (adL L x).length), .int (nI (k + 1)), .int (nI x)])), (a0, .inl (E.2 1, 120, .inl (nA M2_5)))] := hD
  rw [hw.1]
  have hm_5 := hw.2
  have hP9 : va_P E.1 vwCl [(g0, .inr (8, [.ref gm, .ref gk, .ref gs, .ref ga, .ref gl, .ref gh, .ref gd, .int wA, .int wB, .int wU])), (gk, .inr (4, [.ref a0, .int (nI (adL L x).length), .int (nI (k + 1)), .int (nI x)])), (a0, .inl (E.2 1, 120, .inl (nA M2_5)))] H := hP.sub [0, 1, 2] rfl
  have hD9 : va_D A [(g0, .inr (8, [.ref gm, .ref gk, .ref gs, .ref ga, .ref gl, .ref gh, .ref gd, .int wA, .int wB, .int wU])), (gk, .inr (4, [.ref a0, .int (nI (adL L x).length), .int (nI (k + 1)), .int (nI x)])), (a0, .inl (E.2 1, 120, .inl (nA M2_5)))] := hD.sub [0, 1, 2] (by decide) rfl
  exact W.iret (v := nI (k + 1)) hx hb hr (fun t9 ht9 hW9 => ⟨⟨nI (k + 1), (M2_5), rfl, ⟨rfl, hm_5⟩, ⟨by rw [ht9]; exact hP9, hD9⟩⟩, hS.F ht9⟩) hS.2.2 dX8_mark_8
set_option maxHeartbeats 1000000 in
set_option maxRecDepth 100000 in
theorem c_X8_unmark (l : Launch) (E : EnvT) (sz : Nat) (g0 : Nat) (gm : Nat) (gk : Nat) (gs : Nat) (ga : Nat) (gl : Nat) (gh : Nat) (gd : Nat) (wA : Int32) (wB : Int32) (wU : Int32) (a0 : Nat) (L : List Nat) (cn : Int32) (lt : Int32) (M : Nat → Nat)  : Met l yX8_unmark wsX8_unmark ({ frames := 1, cells := 0, slots := 0, locals := 21 }) (va_Pc [.ref g0] (PW E [(g0, .inr (8, [.ref gm, .ref gk, .ref gs, .ref ga, .ref gl, .ref gh, .ref gd, .int wA, .int wB, .int wU])), (gk, .inr (4, [.ref a0, .int (nI L.length), .int cn, .int lt])), (a0, .inl (E.2 1, 120, .inl (nA M)))] sz)) (va_Qi (fun (r : Int32) (uu : Unit) => r = cn) (fun (uu : Unit) t => BW E (va_A [(g0, .inr (8, [.ref gm, .ref gk, .ref gs, .ref ga, .ref gl, .ref gh, .ref gd, .int wA, .int wB, .int wU])), (gk, .inr (4, [.ref a0, .int (nI L.length), .int cn, .int lt])), (a0, .inl (E.2 1, 120, .inl (nA M)))] sz) [(g0, .inr (8, [.ref gm, .ref gk, .ref gs, .ref ga, .ref gl, .ref gh, .ref gd, .int wA, .int wB, .int wU])), (gk, .inr (4, [.ref a0, .int 0, .int 0, .int lt])), (a0, .inl (E.2 1, 120, .inl (nA M)))] t) (va_A [(g0, .inr (8, [.ref gm, .ref gk, .ref gs, .ref ga, .ref gl, .ref gh, .ref gd, .int wA, .int wB, .int wU])), (gk, .inr (4, [.ref a0, .int (nI L.length), .int cn, .int lt])), (a0, .inl (E.2 1, 120, .inl (nA M)))] sz)) 0 0 (va_A [(g0, .inr (8, [.ref gm, .ref gk, .ref gs, .ref ga, .ref gl, .ref gh, .ref gd, .int wA, .int wB, .int wU])), (gk, .inr (4, [.ref a0, .int (nI L.length), .int cn, .int lt])), (a0, .inl (E.2 1, 120, .inl (nA M)))] sz) := by
  refine Met.ofW (cc := cX8_unmark) (maxL := 1) (ret := (some .int)) (by decide +kernel) rfl ?_
  intro p e s m args below meth c s₁ B hml hv
  obtain ⟨rfl, hsz, hP, hE, hD0⟩ := hv
  have hx := B.exec
  have hb := B.bytes
  have hr := B.returns
  have hts := atoms_spec (ws := wsX8_unmark) B.pre
  have hown : s.vm.findClass RX8 = some m.cls := findClass_of_methodNamed B.named
  have hlocks := B.notSynchronized
  have hK := hE.1
  have hNN := hE.2.1
  have hinX8 : ∀ w ∈ wsX80, w ∈ wsX8_unmark := fun w h => List.mem_cons_of_mem _ (List.mem_append_left _ (List.mem_append_right _ h))
  subst hsz
  have hD := hD0.self (sz := s.heap.size)
  generalize hAe : va_A [(g0, .inr (8, [.ref gm, .ref gk, .ref gs, .ref ga, .ref gl, .ref gh, .ref gd, .int wA, .int wB, .int wU])), (gk, .inr (4, [.ref a0, .int (nI L.length), .int cn, .int lt])), (a0, .inl (E.2 1, 120, .inl (nA M)))] s.heap.size = A at hD ⊢
  have hA : ∀ q : Nat, s.heap.size ≤ q → A q := fun q h => by rw [← hAe]; exact Or.inr h
  have hS : va_S A s.heap s.heap [] := va_S.rf
  have hl := lv_entry ([.ref g0]) (n := 1) (Nat.le_of_ble_eq_true rfl)
  rw [lg_entry_eq]
  generalize (lg_sl ([.ref g0]) ++ List.replicate (1 - (lg_sl ([.ref g0])).length) Slot.unset).toArray = ls at hl ⊢
  have hl : lv_has ls 1 [(0, .ref g0)] := hl
  refine lv_aload_n hx hb dX8_unmark_0 rfl (lv_at hl 0 rfl) ?_
  refine va_get (D := E.1) (ci := 8) (v := .ref gk) (C := RX8) (T := TX8) (N := 10) hx hb hts hinX8 hown hK hP 0 rfl rfl 1 (by decide) (hts (.fieldLink RX8 19 "WornRings" "marks" "LWornRings$Marks;") (by decide +kernel)) (fun _ h9 => h9) rfl dX8_unmark_1 ?_
  refine wVi (wr := [(g0, .inr (8, [.ref gm, .ref gk, .ref gs, .ref ga, .ref gl, .ref gh, .ref gd, .int wA, .int wB, .int wU]))]) hE ⟨hx, hb, hml, hown, hts⟩ (c_X4_clear l E s.heap.size gk a0 L cn lt M ) (cwV 0 hts gX8_unmark_X4_clear rfl rfl rfl (by decide +kernel) ⟨Nat.le_of_ble_eq_true rfl, Nat.le_of_ble_eq_true rfl⟩) hP hD hS hA [1, 2] [0] rfl rfl (by decide) (by decide) (by decide) 0 4 rfl rfl rfl hl.1 rfl (Nat.le_of_ble_eq_true rfl) dX8_unmark_4 ⟨(Nat.zero_le _), (Nat.zero_le _)⟩ (fun r_4 u H locs hw hP hD hS => ?_)
  have hP : va_P E.1 vwCl [(g0, .inr (8, [.ref gm, .ref gk, .ref gs, .ref ga, .ref gl, .ref gh, .ref gd, .int wA, .int wB, .int wU])), (gk, .inr (4, [.ref a0, .int 0, .int 0, .int lt])), (a0, .inl (E.2 1, 120, .inl (nA M)))] H := hP
  have hD : va_D A [(g0, .inr (8, [.ref gm, .ref gk, .ref gs, .ref ga, .ref gl, .ref gh, .ref gd, .int wA, .int wB, .int wU])), (gk, .inr (4, [.ref a0, .int 0, .int 0, .int lt])), (a0, .inl (E.2 1, 120, .inl (nA M)))] := hD
  rw [hw]
  have hP9 : va_P E.1 vwCl [(g0, .inr (8, [.ref gm, .ref gk, .ref gs, .ref ga, .ref gl, .ref gh, .ref gd, .int wA, .int wB, .int wU])), (gk, .inr (4, [.ref a0, .int 0, .int 0, .int lt])), (a0, .inl (E.2 1, 120, .inl (nA M)))] H := hP.sub [0, 1, 2] rfl
  have hD9 : va_D A [(g0, .inr (8, [.ref gm, .ref gk, .ref gs, .ref ga, .ref gl, .ref gh, .ref gd, .int wA, .int wB, .int wU])), (gk, .inr (4, [.ref a0, .int 0, .int 0, .int lt])), (a0, .inl (E.2 1, 120, .inl (nA M)))] := hD.sub [0, 1, 2] (by decide) rfl
  exact W.iret (v := cn) hx hb hr (fun t9 ht9 hW9 => ⟨⟨cn, (), rfl, rfl, ⟨by rw [ht9]; exact hP9, hD9⟩⟩, hS.F ht9⟩) hS.2.2 dX8_unmark_7
set_option maxHeartbeats 1000000 in
set_option maxRecDepth 100000 in
theorem c_X8_turns (l : Launch) (E : EnvT) (g0 : Nat) (gm : Nat) (gk : Nat) (gs : Nat) (ga : Nat) (gl : Nat) (gh : Nat) (gd : Nat) (wA : Int32) (wB : Int32) (wU : Int32) (a0 : Nat) (L : List Nat) (cn : Int32) (lt : Int32) (M : Nat → Nat)  : Met l yX8_turns wsX8_turns ({ frames := 0, cells := 0, slots := 0, locals := 0 }) (va_Pc [.ref g0] (PR E [(g0, .inr (8, [.ref gm, .ref gk, .ref gs, .ref ga, .ref gl, .ref gh, .ref gd, .int wA, .int wB, .int wU])), (gk, .inr (4, [.ref a0, .int (nI L.length), .int cn, .int lt])), (a0, .inl (E.2 1, 120, .inl (nA M)))])) (vp_Si (fun r => r = nI L.length)) 0 0 (fun _ => False) := by
  refine Met.ofW (cc := cX8_turns) (maxL := 1) (ret := (some .int)) (by decide +kernel) rfl ?_
  intro p e s m args below meth c s₁ B hml hv
  obtain ⟨rfl, hP, hE⟩ := hv
  have hx := B.exec
  have hb := B.bytes
  have hr := B.returns
  have hts := atoms_spec (ws := wsX8_turns) B.pre
  have hown : s.vm.findClass RX8 = some m.cls := findClass_of_methodNamed B.named
  have hlocks := B.notSynchronized
  have hK := hE.1
  have hNN := hE.2.1
  have hinX8 : ∀ w ∈ wsX80, w ∈ wsX8_turns := fun w h => List.mem_cons_of_mem _ (List.mem_append_left _ (List.mem_append_right _ h))
  have hinX4 : ∀ w ∈ wsX40, w ∈ wsX8_turns := fun w h => List.mem_cons_of_mem _ (List.mem_append_right _ h)
  have hl := lv_entry ([.ref g0]) (n := 1) (Nat.le_of_ble_eq_true rfl)
  rw [lg_entry_eq]
  generalize (lg_sl ([.ref g0]) ++ List.replicate (1 - (lg_sl ([.ref g0])).length) Slot.unset).toArray = ls at hl ⊢
  have hl : lv_has ls 1 [(0, .ref g0)] := hl
  refine lv_aload_n hx hb dX8_turns_0 rfl (lv_at hl 0 rfl) ?_
  refine va_get (D := E.1) (ci := 8) (v := .ref gk) (C := RX8) (T := TX8) (N := 10) hx hb hts hinX8 hown hK hP 0 rfl rfl 1 (by decide) (hts (.fieldLink RX8 19 "WornRings" "marks" "LWornRings$Marks;") (by decide +kernel)) (fun _ h9 => h9) rfl dX8_turns_1 ?_
  refine va_getN (D := E.1) (host := "WornRings") (ref := "WornRings$Marks") (ci := 4) (v := .int (nI L.length)) (C := RX4) (T := TX4) (N := 4) hx hb hts hinX4 hown hK hP 1 rfl rfl 1 (by decide) (va_Nw.use rfl (hNN (.fieldLinkNest RX8 129 "WornRings$Marks" "kept" "I" "WornRings") (by decide +kernel))) (fun _ h9 => h9) rfl dX8_turns_4 ?_
  exact W.iret (v := nI L.length) hx hb hr (fun t9 ht9 hW9 => ⟨nI L.length, rfl, rfl, ht9⟩) (fun _ h => absurd h List.not_mem_nil) dX8_turns_7
set_option maxHeartbeats 1000000 in
set_option maxRecDepth 100000 in
theorem c_X8_turn (l : Launch) (E : EnvT) (g0 : Nat) (gm : Nat) (gk : Nat) (gs : Nat) (ga : Nat) (gl : Nat) (gh : Nat) (gd : Nat) (wA : Int32) (wB : Int32) (wU : Int32) (a0 : Nat) (L : List Nat) (cn : Int32) (lt : Int32) (M : Nat → Nat) (iv : Int32) (hL : L.length ≤ 120) : Met l yX8_turn wsX8_turn ({ frames := 1, cells := 0, slots := 0, locals := 22 }) (va_Pc [.ref g0, .int iv] (PR E [(g0, .inr (8, [.ref gm, .ref gk, .ref gs, .ref ga, .ref gl, .ref gh, .ref gd, .int wA, .int wB, .int wU])), (gk, .inr (4, [.ref a0, .int (nI L.length), .int cn, .int lt])), (a0, .inl (E.2 1, 120, .inl (nA M)))])) (vp_Si (fun r => r = if 0 ≤ iv ∧ iv ≤ nI L.length - 1 then nI (M iv.toNatClampNeg) else -1)) 0 0 (fun _ => False) := by
  refine Met.ofW (cc := cX8_turn) (maxL := 2) (ret := (some .int)) (by decide +kernel) rfl ?_
  intro p e s m args below meth c s₁ B hml hv
  obtain ⟨rfl, hP, hE⟩ := hv
  have hx := B.exec
  have hb := B.bytes
  have hr := B.returns
  have hts := atoms_spec (ws := wsX8_turn) B.pre
  have hown : s.vm.findClass RX8 = some m.cls := findClass_of_methodNamed B.named
  have hlocks := B.notSynchronized
  have hK := hE.1
  have hNN := hE.2.1
  have hinX8 : ∀ w ∈ wsX80, w ∈ wsX8_turn := fun w h => List.mem_cons_of_mem _ (List.mem_append_left _ (List.mem_append_right _ h))
  have hinX4 : ∀ w ∈ wsX40, w ∈ wsX8_turn := fun w h => List.mem_cons_of_mem _ (List.mem_append_right _ h)
  have hl := lv_entry ([.ref g0, .int iv]) (n := 2) (Nat.le_of_ble_eq_true rfl)
  rw [lg_entry_eq]
  generalize (lg_sl ([.ref g0, .int iv]) ++ List.replicate (2 - (lg_sl ([.ref g0, .int iv])).length) Slot.unset).toArray = ls at hl ⊢
  have hl : lv_has ls 2 [(0, .ref g0), (1, .int iv)] := hl
  refine lv_iload_n hx hb dX8_turn_0 rfl (lv_at hl 1 rfl) ?_
  refine lv_iconst (v := 0) hx hb dX8_turn_1 (by decide) ?_
  refine lv_aload_n hx hb dX8_turn_2 rfl (lv_at hl 0 rfl) ?_
  refine va_get (D := E.1) (ci := 8) (v := .ref gk) (C := RX8) (T := TX8) (N := 10) hx hb hts hinX8 hown hK hP 0 rfl rfl 1 (by decide) (hts (.fieldLink RX8 19 "WornRings" "marks" "LWornRings$Marks;") (by decide +kernel)) (fun _ h9 => h9) rfl dX8_turn_3 ?_
  refine va_getN (D := E.1) (host := "WornRings") (ref := "WornRings$Marks") (ci := 4) (v := .int (nI L.length)) (C := RX4) (T := TX4) (N := 4) hx hb hts hinX4 hown hK hP 1 rfl rfl 1 (by decide) (va_Nw.use rfl (hNN (.fieldLinkNest RX8 129 "WornRings$Marks" "kept" "I" "WornRings") (by decide +kernel))) (fun _ h9 => h9) rfl dX8_turn_6 ?_
  refine lv_iconst (v := 1) hx hb dX8_turn_9 (by decide) ?_
  refine lv_isub hx hb dX8_turn_10 ?_
  refine rSi hE ⟨hx, hb, hml, hown, hts⟩ (c_X8_within l E iv 0 ((nI L.length) - 1) ) (va_cwS 3 hts gX8_turn_X8_within rfl rfl rfl (by decide +kernel) ⟨Nat.le_of_ble_eq_true rfl, Nat.le_of_ble_eq_true rfl⟩) (hP.sub [] rfl) rfl hl.1 rfl (Nat.le_of_ble_eq_true rfl) dX8_turn_11 ⟨(Nat.zero_le _), (Nat.zero_le _)⟩ ?_
  refine lv_if_eq (tgt := 29) hx hb dX8_turn_14 (by decide) (fun c_14 => ?_) (fun c_14 => ?_)
  · have c_14 := fWi_0 c_14
    refine lv_iconst (v := (-1)) hx hb dX8_turn_29 (by decide) ?_
    exact W.iret (v := (-1)) hx hb hr (fun t9 ht9 hW9 => ⟨(-1), rfl, by first | rw [if_pos c_14] | rw [if_neg c_14], ht9⟩) (fun _ h => absurd h List.not_mem_nil) dX8_turn_30
  · have c_14 := fWi_1 c_14
    obtain ⟨j, hj9, rfl⟩ := ix_of (by omega) c_14.1 c_14.2
    refine lv_aload_n hx hb dX8_turn_17 rfl (lv_at hl 0 rfl) ?_
    refine va_get (D := E.1) (ci := 8) (v := .ref gk) (C := RX8) (T := TX8) (N := 10) hx hb hts hinX8 hown hK hP 0 rfl rfl 1 (by decide) (hts (.fieldLink RX8 19 "WornRings" "marks" "LWornRings$Marks;") (by decide +kernel)) (fun _ h9 => h9) rfl dX8_turn_18 ?_
    refine va_getN (D := E.1) (host := "WornRings") (ref := "WornRings$Marks") (ci := 4) (v := .ref a0) (C := RX4) (T := TX4) (N := 4) hx hb hts hinX4 hown hK hP 1 rfl rfl 0 (by decide) (va_Nw.use rfl (hNN (.fieldLinkNest RX8 132 "WornRings$Marks" "mended" "[I" "WornRings") (by decide +kernel))) (fun _ h9 => h9) rfl dX8_turn_21 ?_
    refine lv_iload_n hx hb dX8_turn_24 rfl (lv_at hl 1 rfl) ?_
    refine va_iald hx hb hK hP 2 1 rfl rfl (vp_in_nI (by omega) (by omega)) dX8_turn_25 ?_
    rw [nI_clamp (n := j) (by omega)]
    refine W.eq (g2 := F0 m 26 ls [.int (nI (M j))]) rfl ?_
    refine lv_goto (tgt := 30) hx hb dX8_turn_26 (by decide) ?_
    exact W.iret (v := nI (M j)) hx hb hr (fun t9 ht9 hW9 => ⟨nI (M j), rfl, by first | rw [if_pos c_14] | rw [if_neg c_14], ht9⟩) (fun _ h => absurd h List.not_mem_nil) dX8_turn_30
set_option maxHeartbeats 1000000 in
set_option maxRecDepth 100000 in
theorem c_X8_sheet_no (l : Launch) (E : EnvT) (sz : Nat) (g0 : Nat) (gm : Nat) (gk : Nat) (gs : Nat) (ga : Nat) (gl : Nat) (gh : Nat) (gd : Nat) (wA : Int32) (wB : Int32) (wU : Int32) (sv : Int32) (l2 : Int32) (n2 : Int32) (s2 : Int32) (hno : ¬ ((0 ≤ sv ∧ sv ≤ 3) ∧ (0 ≤ l2 ∧ l2 ≤ 2) ∧ (¬ 200 < n2) ∧ (1 ≤ s2 ∧ s2 ≤ 1000)) ∨ n2 < 0) : Met l yX8_sheet wsX8_sheet ({ frames := 1, cells := 0, slots := 0, locals := 22 }) (va_Pc [.ref g0, .int sv, .int l2, .int n2, .int s2] (PW E [(g0, .inr (8, [.ref gm, .ref gk, .ref gs, .ref ga, .ref gl, .ref gh, .ref gd, .int wA, .int wB, .int wU]))] sz)) (va_Qi (fun (r : Int32) (uu : Unit) => r = if (0 ≤ sv ∧ sv ≤ 3) ∧ (0 ≤ l2 ∧ l2 ≤ 2) ∧ (¬ 200 < n2) ∧ (1 ≤ s2 ∧ s2 ≤ 1000) then -14 else -1) (fun (uu : Unit) t => BW E (va_A [(g0, .inr (8, [.ref gm, .ref gk, .ref gs, .ref ga, .ref gl, .ref gh, .ref gd, .int wA, .int wB, .int wU]))] sz) [(g0, .inr (8, [.ref gm, .ref gk, .ref gs, .ref ga, .ref gl, .ref gh, .ref gd, .int wA, .int wB, .int wU]))] t) (va_A [(g0, .inr (8, [.ref gm, .ref gk, .ref gs, .ref ga, .ref gl, .ref gh, .ref gd, .int wA, .int wB, .int wU]))] sz)) 0 0 (va_A [(g0, .inr (8, [.ref gm, .ref gk, .ref gs, .ref ga, .ref gl, .ref gh, .ref gd, .int wA, .int wB, .int wU]))] sz) := by
  refine Met.ofW (cc := cX8_sheet) (maxL := 5) (ret := (some .int)) (by decide +kernel) rfl ?_
  intro p e s m args below meth c s₁ B hml hv
  obtain ⟨rfl, hsz, hP, hE, hD0⟩ := hv
  have hx := B.exec
  have hb := B.bytes
  have hr := B.returns
  have hts := atoms_spec (ws := wsX8_sheet) B.pre
  have hown : s.vm.findClass RX8 = some m.cls := findClass_of_methodNamed B.named
  have hlocks := B.notSynchronized
  have hK := hE.1
  have hNN := hE.2.1
  subst hsz
  have hD := hD0.self (sz := s.heap.size)
  generalize hAe : va_A [(g0, .inr (8, [.ref gm, .ref gk, .ref gs, .ref ga, .ref gl, .ref gh, .ref gd, .int wA, .int wB, .int wU]))] s.heap.size = A at hD ⊢
  have hA : ∀ q : Nat, s.heap.size ≤ q → A q := fun q h => by rw [← hAe]; exact Or.inr h
  have hS : va_S A s.heap s.heap [] := va_S.rf
  have hl := lv_entry ([.ref g0, .int sv, .int l2, .int n2, .int s2]) (n := 5) (Nat.le_of_ble_eq_true rfl)
  rw [lg_entry_eq]
  generalize (lg_sl ([.ref g0, .int sv, .int l2, .int n2, .int s2]) ++ List.replicate (5 - (lg_sl ([.ref g0, .int sv, .int l2, .int n2, .int s2])).length) Slot.unset).toArray = ls at hl ⊢
  have hl : lv_has ls 5 [(0, .ref g0), (1, .int sv), (2, .int l2), (3, .int n2), (4, .int s2)] := hl
  refine lv_iload_n hx hb dX8_sheet_0 rfl (lv_at hl 1 rfl) ?_
  refine lv_iconst (v := 0) hx hb dX8_sheet_1 (by decide) ?_
  refine lv_iconst (v := 3) hx hb dX8_sheet_2 (by decide) ?_
  refine rSi hE ⟨hx, hb, hml, hown, hts⟩ (c_X8_within l E sv 0 3 ) (va_cwS 3 hts gX8_sheet_X8_within rfl rfl rfl (by decide +kernel) ⟨Nat.le_of_ble_eq_true rfl, Nat.le_of_ble_eq_true rfl⟩) (hP.sub [] rfl) rfl hl.1 rfl (Nat.le_of_ble_eq_true rfl) dX8_sheet_3 ⟨(Nat.zero_le _), (Nat.zero_le _)⟩ ?_
  refine lv_if_eq (tgt := 37) hx hb dX8_sheet_6 (by decide) (fun c_6 => ?_) (fun c_6 => ?_)
  · have c_6 := fWi_0 c_6
    refine lv_iconst (v := (-1)) hx hb dX8_sheet_37 (by decide) ?_
    have hP9 : va_P E.1 vwCl [(g0, .inr (8, [.ref gm, .ref gk, .ref gs, .ref ga, .ref gl, .ref gh, .ref gd, .int wA, .int wB, .int wU]))] s.heap := hP.sub [0] rfl
    have hD9 : va_D A [(g0, .inr (8, [.ref gm, .ref gk, .ref gs, .ref ga, .ref gl, .ref gh, .ref gd, .int wA, .int wB, .int wU]))] := hD.sub [0] (by decide) rfl
    exact W.iret (v := (-1)) hx hb hr (fun t9 ht9 hW9 => ⟨⟨(-1), (), rfl, by first | exact (if_neg (fun h9 => c_6 h9.1)).symm | exact (if_neg (fun h9 => c_15 h9.2.1)).symm | exact (if_neg (fun h9 => c_34 h9.2.2.2)).symm | exact (if_neg (fun h9 => h9.2.2.1 c_22)).symm, ⟨by rw [ht9]; exact hP9, hD9⟩⟩, hS.F ht9⟩) hS.2.2 dX8_sheet_38
  · have c_6 := fWi_1 c_6
    refine lv_iload_n hx hb dX8_sheet_9 rfl (lv_at hl 2 rfl) ?_
    refine lv_iconst (v := 0) hx hb dX8_sheet_10 (by decide) ?_
    refine lv_iconst (v := 2) hx hb dX8_sheet_11 (by decide) ?_
    refine rSi hE ⟨hx, hb, hml, hown, hts⟩ (c_X8_within l E l2 0 2 ) (va_cwS 3 hts gX8_sheet_X8_within rfl rfl rfl (by decide +kernel) ⟨Nat.le_of_ble_eq_true rfl, Nat.le_of_ble_eq_true rfl⟩) (hP.sub [] rfl) rfl hl.1 rfl (Nat.le_of_ble_eq_true rfl) dX8_sheet_12 ⟨(Nat.zero_le _), (Nat.zero_le _)⟩ ?_
    refine lv_if_eq (tgt := 37) hx hb dX8_sheet_15 (by decide) (fun c_15 => ?_) (fun c_15 => ?_)
    · have c_15 := fWi_0 c_15
      refine lv_iconst (v := (-1)) hx hb dX8_sheet_37 (by decide) ?_
      have hP9 : va_P E.1 vwCl [(g0, .inr (8, [.ref gm, .ref gk, .ref gs, .ref ga, .ref gl, .ref gh, .ref gd, .int wA, .int wB, .int wU]))] s.heap := hP.sub [0] rfl
      have hD9 : va_D A [(g0, .inr (8, [.ref gm, .ref gk, .ref gs, .ref ga, .ref gl, .ref gh, .ref gd, .int wA, .int wB, .int wU]))] := hD.sub [0] (by decide) rfl
      exact W.iret (v := (-1)) hx hb hr (fun t9 ht9 hW9 => ⟨⟨(-1), (), rfl, by first | exact (if_neg (fun h9 => c_6 h9.1)).symm | exact (if_neg (fun h9 => c_15 h9.2.1)).symm | exact (if_neg (fun h9 => c_34 h9.2.2.2)).symm | exact (if_neg (fun h9 => h9.2.2.1 c_22)).symm, ⟨by rw [ht9]; exact hP9, hD9⟩⟩, hS.F ht9⟩) hS.2.2 dX8_sheet_38
    · have c_15 := fWi_1 c_15
      refine lv_iload_n hx hb dX8_sheet_18 rfl (lv_at hl 3 rfl) ?_
      refine lv_sipush (v := 200) hx hb dX8_sheet_19 (by decide) ?_
      refine lv_icmp_gt (tgt := 37) hx hb dX8_sheet_22 (by decide) (fun c_22 => ?_) (fun c_22 => ?_)
      · refine lv_iconst (v := (-1)) hx hb dX8_sheet_37 (by decide) ?_
        have hP9 : va_P E.1 vwCl [(g0, .inr (8, [.ref gm, .ref gk, .ref gs, .ref ga, .ref gl, .ref gh, .ref gd, .int wA, .int wB, .int wU]))] s.heap := hP.sub [0] rfl
        have hD9 : va_D A [(g0, .inr (8, [.ref gm, .ref gk, .ref gs, .ref ga, .ref gl, .ref gh, .ref gd, .int wA, .int wB, .int wU]))] := hD.sub [0] (by decide) rfl
        exact W.iret (v := (-1)) hx hb hr (fun t9 ht9 hW9 => ⟨⟨(-1), (), rfl, by first | exact (if_neg (fun h9 => c_6 h9.1)).symm | exact (if_neg (fun h9 => c_15 h9.2.1)).symm | exact (if_neg (fun h9 => c_34 h9.2.2.2)).symm | exact (if_neg (fun h9 => h9.2.2.1 c_22)).symm, ⟨by rw [ht9]; exact hP9, hD9⟩⟩, hS.F ht9⟩) hS.2.2 dX8_sheet_38
      · refine lv_iload hx hb dX8_sheet_25 (lv_at hl 4 rfl) ?_
        refine lv_iconst (v := 1) hx hb dX8_sheet_27 (by decide) ?_
        refine lv_sipush (v := 1000) hx hb dX8_sheet_28 (by decide) ?_
        refine rSi hE ⟨hx, hb, hml, hown, hts⟩ (c_X8_within l E s2 1 1000 ) (va_cwS 3 hts gX8_sheet_X8_within rfl rfl rfl (by decide +kernel) ⟨Nat.le_of_ble_eq_true rfl, Nat.le_of_ble_eq_true rfl⟩) (hP.sub [] rfl) rfl hl.1 rfl (Nat.le_of_ble_eq_true rfl) dX8_sheet_31 ⟨(Nat.zero_le _), (Nat.zero_le _)⟩ ?_
        refine lv_if_ne (tgt := 39) hx hb dX8_sheet_34 (by decide) (fun c_34 => ?_) (fun c_34 => ?_)
        · have c_34 := fWi_1 c_34
          refine lv_iload_n hx hb dX8_sheet_39 rfl (lv_at hl 3 rfl) ?_
          refine lv_if_ge (tgt := 46) hx hb dX8_sheet_40 (by decide) (fun c_40 => by exfalso; exact hno.elim (fun h9 => h9 ⟨c_6, c_15, c_22, c_34⟩) (fun h9 => absurd h9 (Int32.not_lt.mpr c_40))) (fun c_40 => ?_)
          refine lv_bipush (v := (-14)) hx hb dX8_sheet_43 (by decide) ?_
          have hP9 : va_P E.1 vwCl [(g0, .inr (8, [.ref gm, .ref gk, .ref gs, .ref ga, .ref gl, .ref gh, .ref gd, .int wA, .int wB, .int wU]))] s.heap := hP.sub [0] rfl
          have hD9 : va_D A [(g0, .inr (8, [.ref gm, .ref gk, .ref gs, .ref ga, .ref gl, .ref gh, .ref gd, .int wA, .int wB, .int wU]))] := hD.sub [0] (by decide) rfl
          exact W.iret (v := (-14)) hx hb hr (fun t9 ht9 hW9 => ⟨⟨(-14), (), rfl, (if_pos ⟨c_6, c_15, c_22, c_34⟩).symm, ⟨by rw [ht9]; exact hP9, hD9⟩⟩, hS.F ht9⟩) hS.2.2 dX8_sheet_45
        · have c_34 := fWi_0 c_34
          refine lv_iconst (v := (-1)) hx hb dX8_sheet_37 (by decide) ?_
          have hP9 : va_P E.1 vwCl [(g0, .inr (8, [.ref gm, .ref gk, .ref gs, .ref ga, .ref gl, .ref gh, .ref gd, .int wA, .int wB, .int wU]))] s.heap := hP.sub [0] rfl
          have hD9 : va_D A [(g0, .inr (8, [.ref gm, .ref gk, .ref gs, .ref ga, .ref gl, .ref gh, .ref gd, .int wA, .int wB, .int wU]))] := hD.sub [0] (by decide) rfl
          exact W.iret (v := (-1)) hx hb hr (fun t9 ht9 hW9 => ⟨⟨(-1), (), rfl, by first | exact (if_neg (fun h9 => c_6 h9.1)).symm | exact (if_neg (fun h9 => c_15 h9.2.1)).symm | exact (if_neg (fun h9 => c_34 h9.2.2.2)).symm | exact (if_neg (fun h9 => h9.2.2.1 c_22)).symm, ⟨by rw [ht9]; exact hP9, hD9⟩⟩, hS.F ht9⟩) hS.2.2 dX8_sheet_38
set_option maxHeartbeats 1000000 in
set_option maxRecDepth 100000 in
theorem c_X8_sheet_yes (l : Launch) (E : EnvT) (sz : Nat) (g0 : Nat) (gm : Nat) (gk : Nat) (gs : Nat) (ga : Nat) (gl : Nat) (gh : Nat) (gd : Nat) (wA : Int32) (wB : Int32) (wU : Int32) (fs : Nat → Option Nat) (q1 : Nat) (a1 : Nat) (hd : Int32) (ln : Int32) (n : Nat) (st : Nat) (f : Nat → Int32) (kk : Nat) (l2 : Int32) (n2 : Nat) (s2 : Nat) (hk : kk < 4) (hq : fs kk = some q1) (hl2 : 0 ≤ l2 ∧ l2 ≤ 2) (hn2 : n2 ≤ 200) (hs1 : 1 ≤ s2) (hs2 : s2 ≤ 1000) : Met l yX8_sheet wsX8_sheet ({ frames := 1, cells := 0, slots := 0, locals := 24 }) (va_Pc [.ref g0, .int (nI kk), .int l2, .int (nI n2), .int (nI s2)] (PW E [(g0, .inr (8, [.ref gm, .ref gk, .ref gs, .ref ga, .ref gl, .ref gh, .ref gd, .int wA, .int wB, .int wU])), (gs, .inl (E.2 5, 4, .inr (.inr (.inr (.inr fs))))), (q1, .inr (7, [.ref a1, .int hd, .int ln, .int (nI n), .int (nI st)])), (a1, .inl (E.2 1, 200, .inl f))] sz)) (va_Qi (fun (r : Int32) (uu : Unit) => r = nI n2) (fun (uu : Unit) t => BW E (va_A [(g0, .inr (8, [.ref gm, .ref gk, .ref gs, .ref ga, .ref gl, .ref gh, .ref gd, .int wA, .int wB, .int wU])), (gs, .inl (E.2 5, 4, .inr (.inr (.inr (.inr fs))))), (q1, .inr (7, [.ref a1, .int hd, .int ln, .int (nI n), .int (nI st)])), (a1, .inl (E.2 1, 200, .inl f))] sz) [(g0, .inr (8, [.ref gm, .ref gk, .ref gs, .ref ga, .ref gl, .ref gh, .ref gd, .int wA, .int wB, .int wU])), (gs, .inl (E.2 5, 4, .inr (.inr (.inr (.inr fs))))), (q1, .inr (7, [.ref a1, .int 1, .int l2, .int (nI n2), .int (nI s2)])), (a1, .inl (E.2 1, 200, .inl (flF (fun _ => (0 : Int32)) 200 f)))] t) (va_A [(g0, .inr (8, [.ref gm, .ref gk, .ref gs, .ref ga, .ref gl, .ref gh, .ref gd, .int wA, .int wB, .int wU])), (gs, .inl (E.2 5, 4, .inr (.inr (.inr (.inr fs))))), (q1, .inr (7, [.ref a1, .int hd, .int ln, .int (nI n), .int (nI st)])), (a1, .inl (E.2 1, 200, .inl f))] sz)) 0 0 (va_A [(g0, .inr (8, [.ref gm, .ref gk, .ref gs, .ref ga, .ref gl, .ref gh, .ref gd, .int wA, .int wB, .int wU])), (gs, .inl (E.2 5, 4, .inr (.inr (.inr (.inr fs))))), (q1, .inr (7, [.ref a1, .int hd, .int ln, .int (nI n), .int (nI st)])), (a1, .inl (E.2 1, 200, .inl f))] sz) := by
  refine Met.ofW (cc := cX8_sheet) (maxL := 5) (ret := (some .int)) (by decide +kernel) rfl ?_
  intro p e s m args below meth c s₁ B hml hv
  obtain ⟨rfl, hsz, hP, hE, hD0⟩ := hv
  have hx := B.exec
  have hb := B.bytes
  have hr := B.returns
  have hts := atoms_spec (ws := wsX8_sheet) B.pre
  have hown : s.vm.findClass RX8 = some m.cls := findClass_of_methodNamed B.named
  have hlocks := B.notSynchronized
  have hK := hE.1
  have hNN := hE.2.1
  have hinX8 : ∀ w ∈ wsX80, w ∈ wsX8_sheet := fun w h => List.mem_cons_of_mem _ (List.mem_append_left _ (List.mem_append_right _ h))
  subst hsz
  have hD := hD0.self (sz := s.heap.size)
  generalize hAe : va_A [(g0, .inr (8, [.ref gm, .ref gk, .ref gs, .ref ga, .ref gl, .ref gh, .ref gd, .int wA, .int wB, .int wU])), (gs, .inl (E.2 5, 4, .inr (.inr (.inr (.inr fs))))), (q1, .inr (7, [.ref a1, .int hd, .int ln, .int (nI n), .int (nI st)])), (a1, .inl (E.2 1, 200, .inl f))] s.heap.size = A at hD ⊢
  have hA : ∀ q : Nat, s.heap.size ≤ q → A q := fun q h => by rw [← hAe]; exact Or.inr h
  have hS : va_S A s.heap s.heap [] := va_S.rf
  have hl := lv_entry ([.ref g0, .int (nI kk), .int l2, .int (nI n2), .int (nI s2)]) (n := 5) (Nat.le_of_ble_eq_true rfl)
  rw [lg_entry_eq]
  generalize (lg_sl ([.ref g0, .int (nI kk), .int l2, .int (nI n2), .int (nI s2)]) ++ List.replicate (5 - (lg_sl ([.ref g0, .int (nI kk), .int l2, .int (nI n2), .int (nI s2)])).length) Slot.unset).toArray = ls at hl ⊢
  have hl : lv_has ls 5 [(0, .ref g0), (1, .int (nI kk)), (2, .int l2), (3, .int (nI n2)), (4, .int (nI s2))] := hl
  refine lv_iload_n hx hb dX8_sheet_0 rfl (lv_at hl 1 rfl) ?_
  refine lv_iconst (v := 0) hx hb dX8_sheet_1 (by decide) ?_
  refine lv_iconst (v := 3) hx hb dX8_sheet_2 (by decide) ?_
  refine rSi hE ⟨hx, hb, hml, hown, hts⟩ (c_X8_within l E (nI kk) 0 3 ) (va_cwS 3 hts gX8_sheet_X8_within rfl rfl rfl (by decide +kernel) ⟨Nat.le_of_ble_eq_true rfl, Nat.le_of_ble_eq_true rfl⟩) (hP.sub [] rfl) rfl hl.1 rfl (Nat.le_of_ble_eq_true rfl) dX8_sheet_3 ⟨(Nat.zero_le _), (Nat.zero_le _)⟩ ?_
  refine lv_if_eq (tgt := 37) hx hb dX8_sheet_6 (by decide) (fun c_6 => by exfalso; have c_6 := fWi_0 c_6; exact c_6 ⟨nI_pos' (by omega), nI_le (b := 3) (by omega) (by omega)⟩) (fun c_6 => ?_)
  have c_6 := fWi_1 c_6
  refine lv_iload_n hx hb dX8_sheet_9 rfl (lv_at hl 2 rfl) ?_
  refine lv_iconst (v := 0) hx hb dX8_sheet_10 (by decide) ?_
  refine lv_iconst (v := 2) hx hb dX8_sheet_11 (by decide) ?_
  refine rSi hE ⟨hx, hb, hml, hown, hts⟩ (c_X8_within l E l2 0 2 ) (va_cwS 3 hts gX8_sheet_X8_within rfl rfl rfl (by decide +kernel) ⟨Nat.le_of_ble_eq_true rfl, Nat.le_of_ble_eq_true rfl⟩) (hP.sub [] rfl) rfl hl.1 rfl (Nat.le_of_ble_eq_true rfl) dX8_sheet_12 ⟨(Nat.zero_le _), (Nat.zero_le _)⟩ ?_
  refine lv_if_eq (tgt := 37) hx hb dX8_sheet_15 (by decide) (fun c_15 => by exfalso; have c_15 := fWi_0 c_15; exact c_15 hl2) (fun c_15 => ?_)
  have c_15 := fWi_1 c_15
  refine lv_iload_n hx hb dX8_sheet_18 rfl (lv_at hl 3 rfl) ?_
  refine lv_sipush (v := 200) hx hb dX8_sheet_19 (by decide) ?_
  refine lv_icmp_gt (tgt := 37) hx hb dX8_sheet_22 (by decide) (fun c_22 => by exfalso; have c_22 : 200 < n2 := (nI_ltI (a := 200) (b := n2) (by omega) (by omega)).mp c_22; omega) (fun c_22 => ?_)
  have c_22 : ¬ 200 < n2 := fun h9 => c_22 ((nI_ltI (a := 200) (b := n2) (by omega) (by omega)).mpr h9)
  refine lv_iload hx hb dX8_sheet_25 (lv_at hl 4 rfl) ?_
  refine lv_iconst (v := 1) hx hb dX8_sheet_27 (by decide) ?_
  refine lv_sipush (v := 1000) hx hb dX8_sheet_28 (by decide) ?_
  refine rSi hE ⟨hx, hb, hml, hown, hts⟩ (c_X8_within l E (nI s2) 1 1000 ) (va_cwS 3 hts gX8_sheet_X8_within rfl rfl rfl (by decide +kernel) ⟨Nat.le_of_ble_eq_true rfl, Nat.le_of_ble_eq_true rfl⟩) (hP.sub [] rfl) rfl hl.1 rfl (Nat.le_of_ble_eq_true rfl) dX8_sheet_31 ⟨(Nat.zero_le _), (Nat.zero_le _)⟩ ?_
  refine lv_if_ne (tgt := 39) hx hb dX8_sheet_34 (by decide) (fun c_34 => ?_) (fun c_34 => by exfalso; have c_34 := fWi_0 c_34; exact c_34 ⟨nI_le (a := 1) (by omega) (by omega), nI_le (b := 1000) (by omega) (by omega)⟩)
  have c_34 := fWi_1 c_34
  refine lv_iload_n hx hb dX8_sheet_39 rfl (lv_at hl 3 rfl) ?_
  refine lv_if_ge (tgt := 46) hx hb dX8_sheet_40 (by decide) (fun c_40 => ?_) (fun c_40 => by exfalso; have c_40 : ¬ 0 ≤ n2 := fun h9 => c_40 ((nI_leI (a := 0) (b := n2) (by omega) (by omega)).mpr h9); omega)
  have c_40 : 0 ≤ n2 := (nI_leI (a := 0) (b := n2) (by omega) (by omega)).mp c_40
  refine lv_aload_n hx hb dX8_sheet_46 rfl (lv_at hl 0 rfl) ?_
  refine va_get (D := E.1) (ci := 8) (v := .ref gs) (C := RX8) (T := TX8) (N := 10) hx hb hts hinX8 hown hK hP 0 rfl rfl 2 (by decide) (hts (.fieldLink RX8 25 "WornRings" "sheets" "[LWornRings$Sheet;") (by decide +kernel)) (fun _ h9 => h9) rfl dX8_sheet_47 ?_
  refine lv_iload_n hx hb dX8_sheet_50 rfl (lv_at hl 1 rfl) ?_
  refine va_aldq hx hb hK hP 1 5 rfl rfl (vp_in_nI (by omega) (by omega)) dX8_sheet_51 ?_
  rw [nI_clamp (n := kk) (by omega)]
  rw [hq]
  refine W.eq (g2 := F0 m 52 ls [.ref q1]) rfl ?_
  refine lv_iload_n hx hb dX8_sheet_52 rfl (lv_at hl 2 rfl) ?_
  refine lv_iload_n hx hb dX8_sheet_53 rfl (lv_at hl 3 rfl) ?_
  refine lv_iload hx hb dX8_sheet_54 (lv_at hl 4 rfl) ?_
  refine wVv (wr := [(g0, .inr (8, [.ref gm, .ref gk, .ref gs, .ref ga, .ref gl, .ref gh, .ref gd, .int wA, .int wB, .int wU])), (gs, .inl (E.2 5, 4, .inr (.inr (.inr (.inr fs)))))]) hE ⟨hx, hb, hml, hown, hts⟩ (c_X7_begin l E s.heap.size q1 a1 hd ln (nI n) (nI st) f l2 (nI n2) (nI s2) ) (cwV 3 hts gX8_sheet_X7_begin rfl rfl rfl (by decide +kernel) ⟨Nat.le_of_ble_eq_true rfl, Nat.le_of_ble_eq_true rfl⟩) hP hD hS hA [2, 3] [0, 1] rfl rfl (by decide) (by decide) (by decide) 0 7 rfl rfl rfl hl.1 rfl (Nat.le_of_ble_eq_true rfl) dX8_sheet_56 ⟨(Nat.zero_le _), (Nat.zero_le _)⟩ (fun u H locs hw hP hD hS => ?_)
  have hP : va_P E.1 vwCl [(g0, .inr (8, [.ref gm, .ref gk, .ref gs, .ref ga, .ref gl, .ref gh, .ref gd, .int wA, .int wB, .int wU])), (gs, .inl (E.2 5, 4, .inr (.inr (.inr (.inr fs))))), (q1, .inr (7, [.ref a1, .int 1, .int l2, .int (nI n2), .int (nI s2)])), (a1, .inl (E.2 1, 200, .inl (flF (fun _ => (0 : Int32)) 200 f)))] H := hP
  have hD : va_D A [(g0, .inr (8, [.ref gm, .ref gk, .ref gs, .ref ga, .ref gl, .ref gh, .ref gd, .int wA, .int wB, .int wU])), (gs, .inl (E.2 5, 4, .inr (.inr (.inr (.inr fs))))), (q1, .inr (7, [.ref a1, .int 1, .int l2, .int (nI n2), .int (nI s2)])), (a1, .inl (E.2 1, 200, .inl (flF (fun _ => (0 : Int32)) 200 f)))] := hD
  refine lv_iload_n hx hb dX8_sheet_59 rfl (lv_at hl 3 rfl) ?_
  have hP9 : va_P E.1 vwCl [(g0, .inr (8, [.ref gm, .ref gk, .ref gs, .ref ga, .ref gl, .ref gh, .ref gd, .int wA, .int wB, .int wU])), (gs, .inl (E.2 5, 4, .inr (.inr (.inr (.inr fs))))), (q1, .inr (7, [.ref a1, .int 1, .int l2, .int (nI n2), .int (nI s2)])), (a1, .inl (E.2 1, 200, .inl (flF (fun _ => (0 : Int32)) 200 f)))] H := hP.sub [0, 1, 2, 3] rfl
  have hD9 : va_D A [(g0, .inr (8, [.ref gm, .ref gk, .ref gs, .ref ga, .ref gl, .ref gh, .ref gd, .int wA, .int wB, .int wU])), (gs, .inl (E.2 5, 4, .inr (.inr (.inr (.inr fs))))), (q1, .inr (7, [.ref a1, .int 1, .int l2, .int (nI n2), .int (nI s2)])), (a1, .inl (E.2 1, 200, .inl (flF (fun _ => (0 : Int32)) 200 f)))] := hD.sub [0, 1, 2, 3] (by decide) rfl
  exact W.iret (v := nI n2) hx hb hr (fun t9 ht9 hW9 => ⟨⟨nI n2, (), rfl, rfl, ⟨by rw [ht9]; exact hP9, hD9⟩⟩, hS.F ht9⟩) hS.2.2 dX8_sheet_60
set_option maxHeartbeats 1000000 in
set_option maxRecDepth 100000 in
theorem c_X8_drop_no (l : Launch) (E : EnvT) (sz : Nat) (g0 : Nat) (gm : Nat) (gk : Nat) (gs : Nat) (ga : Nat) (gl : Nat) (gh : Nat) (gd : Nat) (wA : Int32) (wB : Int32) (wU : Int32) (sv : Int32) (hno : ¬ (0 ≤ sv ∧ sv ≤ 3)) : Met l yX8_drop wsX8_drop ({ frames := 1, cells := 0, slots := 0, locals := 22 }) (va_Pc [.ref g0, .int sv] (PW E [(g0, .inr (8, [.ref gm, .ref gk, .ref gs, .ref ga, .ref gl, .ref gh, .ref gd, .int wA, .int wB, .int wU]))] sz)) (va_Qi (fun (r : Int32) (uu : Unit) => r = -1) (fun (uu : Unit) t => BW E (va_A [(g0, .inr (8, [.ref gm, .ref gk, .ref gs, .ref ga, .ref gl, .ref gh, .ref gd, .int wA, .int wB, .int wU]))] sz) [(g0, .inr (8, [.ref gm, .ref gk, .ref gs, .ref ga, .ref gl, .ref gh, .ref gd, .int wA, .int wB, .int wU]))] t) (va_A [(g0, .inr (8, [.ref gm, .ref gk, .ref gs, .ref ga, .ref gl, .ref gh, .ref gd, .int wA, .int wB, .int wU]))] sz)) 0 0 (va_A [(g0, .inr (8, [.ref gm, .ref gk, .ref gs, .ref ga, .ref gl, .ref gh, .ref gd, .int wA, .int wB, .int wU]))] sz) := by
  refine Met.ofW (cc := cX8_drop) (maxL := 2) (ret := (some .int)) (by decide +kernel) rfl ?_
  intro p e s m args below meth c s₁ B hml hv
  obtain ⟨rfl, hsz, hP, hE, hD0⟩ := hv
  have hx := B.exec
  have hb := B.bytes
  have hr := B.returns
  have hts := atoms_spec (ws := wsX8_drop) B.pre
  have hown : s.vm.findClass RX8 = some m.cls := findClass_of_methodNamed B.named
  have hlocks := B.notSynchronized
  have hK := hE.1
  have hNN := hE.2.1
  subst hsz
  have hD := hD0.self (sz := s.heap.size)
  generalize hAe : va_A [(g0, .inr (8, [.ref gm, .ref gk, .ref gs, .ref ga, .ref gl, .ref gh, .ref gd, .int wA, .int wB, .int wU]))] s.heap.size = A at hD ⊢
  have hA : ∀ q : Nat, s.heap.size ≤ q → A q := fun q h => by rw [← hAe]; exact Or.inr h
  have hS : va_S A s.heap s.heap [] := va_S.rf
  have hl := lv_entry ([.ref g0, .int sv]) (n := 2) (Nat.le_of_ble_eq_true rfl)
  rw [lg_entry_eq]
  generalize (lg_sl ([.ref g0, .int sv]) ++ List.replicate (2 - (lg_sl ([.ref g0, .int sv])).length) Slot.unset).toArray = ls at hl ⊢
  have hl : lv_has ls 2 [(0, .ref g0), (1, .int sv)] := hl
  refine lv_iload_n hx hb dX8_drop_0 rfl (lv_at hl 1 rfl) ?_
  refine lv_iconst (v := 0) hx hb dX8_drop_1 (by decide) ?_
  refine lv_iconst (v := 3) hx hb dX8_drop_2 (by decide) ?_
  refine rSi hE ⟨hx, hb, hml, hown, hts⟩ (c_X8_within l E sv 0 3 ) (va_cwS 3 hts gX8_drop_X8_within rfl rfl rfl (by decide +kernel) ⟨Nat.le_of_ble_eq_true rfl, Nat.le_of_ble_eq_true rfl⟩) (hP.sub [] rfl) rfl hl.1 rfl (Nat.le_of_ble_eq_true rfl) dX8_drop_3 ⟨(Nat.zero_le _), (Nat.zero_le _)⟩ ?_
  refine lv_if_ne (tgt := 11) hx hb dX8_drop_6 (by decide) (fun c_6 => by exfalso; have c_6 := fWi_1 c_6; exact hno c_6) (fun c_6 => ?_)
  have c_6 := fWi_0 c_6
  refine lv_iconst (v := (-1)) hx hb dX8_drop_9 (by decide) ?_
  have hP9 : va_P E.1 vwCl [(g0, .inr (8, [.ref gm, .ref gk, .ref gs, .ref ga, .ref gl, .ref gh, .ref gd, .int wA, .int wB, .int wU]))] s.heap := hP.sub [0] rfl
  have hD9 : va_D A [(g0, .inr (8, [.ref gm, .ref gk, .ref gs, .ref ga, .ref gl, .ref gh, .ref gd, .int wA, .int wB, .int wU]))] := hD.sub [0] (by decide) rfl
  exact W.iret (v := (-1)) hx hb hr (fun t9 ht9 hW9 => ⟨⟨(-1), (), rfl, rfl, ⟨by rw [ht9]; exact hP9, hD9⟩⟩, hS.F ht9⟩) hS.2.2 dX8_drop_10
set_option maxHeartbeats 1000000 in
set_option maxRecDepth 100000 in
theorem c_X8_drop_yes (l : Launch) (E : EnvT) (sz : Nat) (g0 : Nat) (gm : Nat) (gk : Nat) (gs : Nat) (ga : Nat) (gl : Nat) (gh : Nat) (gd : Nat) (wA : Int32) (wB : Int32) (wU : Int32) (fs : Nat → Option Nat) (q1 : Nat) (a1 : Nat) (hd : Int32) (ln : Int32) (n : Nat) (st : Nat) (f : Nat → Int32) (kk : Nat) (hk : kk < 4) (hq : fs kk = some q1) : Met l yX8_drop wsX8_drop ({ frames := 1, cells := 0, slots := 0, locals := 22 }) (va_Pc [.ref g0, .int (nI kk)] (PW E [(g0, .inr (8, [.ref gm, .ref gk, .ref gs, .ref ga, .ref gl, .ref gh, .ref gd, .int wA, .int wB, .int wU])), (gs, .inl (E.2 5, 4, .inr (.inr (.inr (.inr fs))))), (q1, .inr (7, [.ref a1, .int hd, .int ln, .int (nI n), .int (nI st)])), (a1, .inl (E.2 1, 200, .inl f))] sz)) (va_Qi (fun (r : Int32) (uu : Unit) => r = if hd = 0 then -11 else nI n) (fun (uu : Unit) t => BW E (va_A [(g0, .inr (8, [.ref gm, .ref gk, .ref gs, .ref ga, .ref gl, .ref gh, .ref gd, .int wA, .int wB, .int wU])), (gs, .inl (E.2 5, 4, .inr (.inr (.inr (.inr fs))))), (q1, .inr (7, [.ref a1, .int hd, .int ln, .int (nI n), .int (nI st)])), (a1, .inl (E.2 1, 200, .inl f))] sz) [(g0, .inr (8, [.ref gm, .ref gk, .ref gs, .ref ga, .ref gl, .ref gh, .ref gd, .int wA, .int wB, .int wU])), (gs, .inl (E.2 5, 4, .inr (.inr (.inr (.inr fs))))), (q1, .inr (7, [.ref a1, .int 0, .int ln, .int (nI n), .int (nI st)])), (a1, .inl (E.2 1, 200, .inl f))] t) (va_A [(g0, .inr (8, [.ref gm, .ref gk, .ref gs, .ref ga, .ref gl, .ref gh, .ref gd, .int wA, .int wB, .int wU])), (gs, .inl (E.2 5, 4, .inr (.inr (.inr (.inr fs))))), (q1, .inr (7, [.ref a1, .int hd, .int ln, .int (nI n), .int (nI st)])), (a1, .inl (E.2 1, 200, .inl f))] sz)) 0 0 (va_A [(g0, .inr (8, [.ref gm, .ref gk, .ref gs, .ref ga, .ref gl, .ref gh, .ref gd, .int wA, .int wB, .int wU])), (gs, .inl (E.2 5, 4, .inr (.inr (.inr (.inr fs))))), (q1, .inr (7, [.ref a1, .int hd, .int ln, .int (nI n), .int (nI st)])), (a1, .inl (E.2 1, 200, .inl f))] sz) := by
  refine Met.ofW (cc := cX8_drop) (maxL := 2) (ret := (some .int)) (by decide +kernel) rfl ?_
  intro p e s m args below meth c s₁ B hml hv
  obtain ⟨rfl, hsz, hP, hE, hD0⟩ := hv
  have hx := B.exec
  have hb := B.bytes
  have hr := B.returns
  have hts := atoms_spec (ws := wsX8_drop) B.pre
  have hown : s.vm.findClass RX8 = some m.cls := findClass_of_methodNamed B.named
  have hlocks := B.notSynchronized
  have hK := hE.1
  have hNN := hE.2.1
  have hinX8 : ∀ w ∈ wsX80, w ∈ wsX8_drop := fun w h => List.mem_cons_of_mem _ (List.mem_append_left _ (List.mem_append_right _ h))
  have hinX7 : ∀ w ∈ wsX70, w ∈ wsX8_drop := fun w h => List.mem_cons_of_mem _ (List.mem_append_right _ h)
  subst hsz
  have hD := hD0.self (sz := s.heap.size)
  generalize hAe : va_A [(g0, .inr (8, [.ref gm, .ref gk, .ref gs, .ref ga, .ref gl, .ref gh, .ref gd, .int wA, .int wB, .int wU])), (gs, .inl (E.2 5, 4, .inr (.inr (.inr (.inr fs))))), (q1, .inr (7, [.ref a1, .int hd, .int ln, .int (nI n), .int (nI st)])), (a1, .inl (E.2 1, 200, .inl f))] s.heap.size = A at hD ⊢
  have hA : ∀ q : Nat, s.heap.size ≤ q → A q := fun q h => by rw [← hAe]; exact Or.inr h
  have hS : va_S A s.heap s.heap [] := va_S.rf
  have hl := lv_entry ([.ref g0, .int (nI kk)]) (n := 2) (Nat.le_of_ble_eq_true rfl)
  rw [lg_entry_eq]
  generalize (lg_sl ([.ref g0, .int (nI kk)]) ++ List.replicate (2 - (lg_sl ([.ref g0, .int (nI kk)])).length) Slot.unset).toArray = ls at hl ⊢
  have hl : lv_has ls 2 [(0, .ref g0), (1, .int (nI kk))] := hl
  refine lv_iload_n hx hb dX8_drop_0 rfl (lv_at hl 1 rfl) ?_
  refine lv_iconst (v := 0) hx hb dX8_drop_1 (by decide) ?_
  refine lv_iconst (v := 3) hx hb dX8_drop_2 (by decide) ?_
  refine rSi hE ⟨hx, hb, hml, hown, hts⟩ (c_X8_within l E (nI kk) 0 3 ) (va_cwS 3 hts gX8_drop_X8_within rfl rfl rfl (by decide +kernel) ⟨Nat.le_of_ble_eq_true rfl, Nat.le_of_ble_eq_true rfl⟩) (hP.sub [] rfl) rfl hl.1 rfl (Nat.le_of_ble_eq_true rfl) dX8_drop_3 ⟨(Nat.zero_le _), (Nat.zero_le _)⟩ ?_
  refine lv_if_ne (tgt := 11) hx hb dX8_drop_6 (by decide) (fun c_6 => ?_) (fun c_6 => by exfalso; have c_6 := fWi_0 c_6; exact c_6 ⟨nI_pos' (by omega), nI_le (b := 3) (by omega) (by omega)⟩)
  have c_6 := fWi_1 c_6
  refine lv_aload_n hx hb dX8_drop_11 rfl (lv_at hl 0 rfl) ?_
  refine va_get (D := E.1) (ci := 8) (v := .ref gs) (C := RX8) (T := TX8) (N := 10) hx hb hts hinX8 hown hK hP 0 rfl rfl 2 (by decide) (hts (.fieldLink RX8 25 "WornRings" "sheets" "[LWornRings$Sheet;") (by decide +kernel)) (fun _ h9 => h9) rfl dX8_drop_12 ?_
  refine lv_iload_n hx hb dX8_drop_15 rfl (lv_at hl 1 rfl) ?_
  refine va_aldq hx hb hK hP 1 5 rfl rfl (vp_in_nI (by omega) (by omega)) dX8_drop_16 ?_
  rw [nI_clamp (n := kk) (by omega)]
  rw [hq]
  refine W.eq (g2 := F0 m 17 ls [.ref q1]) rfl ?_
  refine va_getN (D := E.1) (host := "WornRings") (ref := "WornRings$Sheet") (ci := 7) (v := .int hd) (C := RX7) (T := TX7) (N := 5) hx hb hts hinX7 hown hK hP 2 rfl rfl 1 (by decide) (va_Nw.use rfl (hNN (.fieldLinkNest RX8 140 "WornRings$Sheet" "held" "Z" "WornRings") (by decide +kernel))) (fun _ h9 => h9) rfl dX8_drop_17 ?_
  refine lv_if_ne (tgt := 26) hx hb dX8_drop_20 (by decide) (fun c_20 => ?_) (fun c_20 => ?_)
  · refine lv_aload_n hx hb dX8_drop_26 rfl (lv_at hl 0 rfl) ?_
    refine va_get (D := E.1) (ci := 8) (v := .ref gs) (C := RX8) (T := TX8) (N := 10) hx hb hts hinX8 hown hK hP 0 rfl rfl 2 (by decide) (hts (.fieldLink RX8 25 "WornRings" "sheets" "[LWornRings$Sheet;") (by decide +kernel)) (fun _ h9 => h9) rfl dX8_drop_27 ?_
    refine lv_iload_n hx hb dX8_drop_30 rfl (lv_at hl 1 rfl) ?_
    refine va_aldq hx hb hK hP 1 5 rfl rfl (vp_in_nI (by omega) (by omega)) dX8_drop_31 ?_
    rw [nI_clamp (n := kk) (by omega)]
    rw [hq]
    refine W.eq (g2 := F0 m 32 ls [.ref q1]) rfl ?_
    refine lv_iconst (v := 0) hx hb dX8_drop_32 (by decide) ?_
    refine va_putN (host := "WornRings") (ref := "WornRings$Sheet") (D := E.1) (ci := 7) (v := .int 0) (ty := .boolean) (C := RX7) (T := TX7) (N := 5) hx hb hts hinX7 tyX7 tyX7_ok nmX7 hown hK hP hD hS 2 rfl rfl 1 (by decide) (va_Nw.use rfl (hNN (.fieldLinkNest RX8 140 "WornRings$Sheet" "held" "Z" "WornRings") (by decide +kernel))) (fun _ h9 => h9) rfl (by decide +kernel) (rfl) (rfl) (Nat.le_of_ble_eq_true rfl) dX8_drop_33 (fun H locs hP hD hS => ?_)
    have hP : va_P E.1 vwCl [(g0, .inr (8, [.ref gm, .ref gk, .ref gs, .ref ga, .ref gl, .ref gh, .ref gd, .int wA, .int wB, .int wU])), (gs, .inl (E.2 5, 4, .inr (.inr (.inr (.inr fs))))), (q1, .inr (7, [.ref a1, .int 0, .int ln, .int (nI n), .int (nI st)])), (a1, .inl (E.2 1, 200, .inl f))] H := hP
    have hD : va_D A [(g0, .inr (8, [.ref gm, .ref gk, .ref gs, .ref ga, .ref gl, .ref gh, .ref gd, .int wA, .int wB, .int wU])), (gs, .inl (E.2 5, 4, .inr (.inr (.inr (.inr fs))))), (q1, .inr (7, [.ref a1, .int 0, .int ln, .int (nI n), .int (nI st)])), (a1, .inl (E.2 1, 200, .inl f))] := hD
    refine lv_aload_n hx hb dX8_drop_36 rfl (lv_at hl 0 rfl) ?_
    refine va_get (D := E.1) (ci := 8) (v := .ref gs) (C := RX8) (T := TX8) (N := 10) hx hb hts hinX8 hown hK hP 0 rfl rfl 2 (by decide) (hts (.fieldLink RX8 25 "WornRings" "sheets" "[LWornRings$Sheet;") (by decide +kernel)) (fun _ h9 => h9) rfl dX8_drop_37 ?_
    refine lv_iload_n hx hb dX8_drop_40 rfl (lv_at hl 1 rfl) ?_
    refine va_aldq hx hb hK hP 1 5 rfl rfl (vp_in_nI (by omega) (by omega)) dX8_drop_41 ?_
    rw [nI_clamp (n := kk) (by omega)]
    rw [hq]
    refine W.eq (g2 := F0 m 42 ls [.ref q1]) rfl ?_
    refine va_getN (D := E.1) (host := "WornRings") (ref := "WornRings$Sheet") (ci := 7) (v := .int (nI n)) (C := RX7) (T := TX7) (N := 5) hx hb hts hinX7 hown hK hP 2 rfl rfl 3 (by decide) (va_Nw.use rfl (hNN (.fieldLinkNest RX8 144 "WornRings$Sheet" "length" "I" "WornRings") (by decide +kernel))) (fun _ h9 => h9) rfl dX8_drop_42 ?_
    have hP9 : va_P E.1 vwCl [(g0, .inr (8, [.ref gm, .ref gk, .ref gs, .ref ga, .ref gl, .ref gh, .ref gd, .int wA, .int wB, .int wU])), (gs, .inl (E.2 5, 4, .inr (.inr (.inr (.inr fs))))), (q1, .inr (7, [.ref a1, .int 0, .int ln, .int (nI n), .int (nI st)])), (a1, .inl (E.2 1, 200, .inl f))] H := hP.sub [0, 1, 2, 3] rfl
    have hD9 : va_D A [(g0, .inr (8, [.ref gm, .ref gk, .ref gs, .ref ga, .ref gl, .ref gh, .ref gd, .int wA, .int wB, .int wU])), (gs, .inl (E.2 5, 4, .inr (.inr (.inr (.inr fs))))), (q1, .inr (7, [.ref a1, .int 0, .int ln, .int (nI n), .int (nI st)])), (a1, .inl (E.2 1, 200, .inl f))] := hD.sub [0, 1, 2, 3] (by decide) rfl
    exact W.iret (v := nI n) hx hb hr (fun t9 ht9 hW9 => ⟨⟨nI n, (), rfl, (if_neg c_20).symm, ⟨by rw [ht9]; exact hP9, hD9⟩⟩, hS.F ht9⟩) hS.2.2 dX8_drop_45
  · refine lv_bipush (v := (-11)) hx hb dX8_drop_23 (by decide) ?_
    have e9 : ([(g0, .inr (8, [.ref gm, .ref gk, .ref gs, .ref ga, .ref gl, .ref gh, .ref gd, .int wA, .int wB, .int wU])), (gs, .inl (E.2 5, 4, .inr (.inr (.inr (.inr fs))))), (q1, .inr (7, [.ref a1, .int 0, .int ln, .int (nI n), .int (nI st)])), (a1, .inl (E.2 1, 200, .inl f))] : va_W) = [(g0, .inr (8, [.ref gm, .ref gk, .ref gs, .ref ga, .ref gl, .ref gh, .ref gd, .int wA, .int wB, .int wU])), (gs, .inl (E.2 5, 4, .inr (.inr (.inr (.inr fs))))), (q1, .inr (7, [.ref a1, .int hd, .int ln, .int (nI n), .int (nI st)])), (a1, .inl (E.2 1, 200, .inl f))] := by rw [c_20]
    have hP9 : va_P E.1 vwCl [(g0, .inr (8, [.ref gm, .ref gk, .ref gs, .ref ga, .ref gl, .ref gh, .ref gd, .int wA, .int wB, .int wU])), (gs, .inl (E.2 5, 4, .inr (.inr (.inr (.inr fs))))), (q1, .inr (7, [.ref a1, .int 0, .int ln, .int (nI n), .int (nI st)])), (a1, .inl (E.2 1, 200, .inl f))] s.heap := by rw [e9]; exact hP.sub [0, 1, 2, 3] rfl
    have hD9 : va_D A [(g0, .inr (8, [.ref gm, .ref gk, .ref gs, .ref ga, .ref gl, .ref gh, .ref gd, .int wA, .int wB, .int wU])), (gs, .inl (E.2 5, 4, .inr (.inr (.inr (.inr fs))))), (q1, .inr (7, [.ref a1, .int 0, .int ln, .int (nI n), .int (nI st)])), (a1, .inl (E.2 1, 200, .inl f))] := by rw [e9]; exact hD.sub [0, 1, 2, 3] (by decide) rfl
    exact W.iret (v := (-11)) hx hb hr (fun t9 ht9 hW9 => ⟨⟨(-11), (), rfl, (if_pos c_20).symm, ⟨by rw [ht9]; exact hP9, hD9⟩⟩, hS.F ht9⟩) hS.2.2 dX8_drop_25
set_option maxHeartbeats 1000000 in
set_option maxRecDepth 100000 in
theorem c_X8_item_no (l : Launch) (E : EnvT) (sz : Nat) (g0 : Nat) (gm : Nat) (gk : Nat) (gs : Nat) (ga : Nat) (gl : Nat) (gh : Nat) (gd : Nat) (wA : Int32) (wB : Int32) (wU : Int32) (sv : Int32) (l2 : Int32) (iv : Int32) (v : Int32) (hno : ¬ ((0 ≤ sv ∧ sv ≤ 3) ∧ (0 ≤ l2 ∧ l2 ≤ 2) ∧ ((-30000) ≤ v ∧ v ≤ 30000))) : Met l yX8_item wsX8_item ({ frames := 1, cells := 0, slots := 0, locals := 22 }) (va_Pc [.ref g0, .int sv, .int l2, .int iv, .int v] (PW E [(g0, .inr (8, [.ref gm, .ref gk, .ref gs, .ref ga, .ref gl, .ref gh, .ref gd, .int wA, .int wB, .int wU]))] sz)) (va_Qi (fun (r : Int32) (uu : Unit) => r = -1) (fun (uu : Unit) t => BW E (va_A [(g0, .inr (8, [.ref gm, .ref gk, .ref gs, .ref ga, .ref gl, .ref gh, .ref gd, .int wA, .int wB, .int wU]))] sz) [(g0, .inr (8, [.ref gm, .ref gk, .ref gs, .ref ga, .ref gl, .ref gh, .ref gd, .int wA, .int wB, .int wU]))] t) (va_A [(g0, .inr (8, [.ref gm, .ref gk, .ref gs, .ref ga, .ref gl, .ref gh, .ref gd, .int wA, .int wB, .int wU]))] sz)) 0 0 (va_A [(g0, .inr (8, [.ref gm, .ref gk, .ref gs, .ref ga, .ref gl, .ref gh, .ref gd, .int wA, .int wB, .int wU]))] sz) := by
  refine Met.ofW (cc := cX8_item) (maxL := 6) (ret := (some .int)) (by decide +kernel) rfl ?_
  intro p e s m args below meth c s₁ B hml hv
  obtain ⟨rfl, hsz, hP, hE, hD0⟩ := hv
  have hx := B.exec
  have hb := B.bytes
  have hr := B.returns
  have hts := atoms_spec (ws := wsX8_item) B.pre
  have hown : s.vm.findClass RX8 = some m.cls := findClass_of_methodNamed B.named
  have hlocks := B.notSynchronized
  have hK := hE.1
  have hNN := hE.2.1
  subst hsz
  have hD := hD0.self (sz := s.heap.size)
  generalize hAe : va_A [(g0, .inr (8, [.ref gm, .ref gk, .ref gs, .ref ga, .ref gl, .ref gh, .ref gd, .int wA, .int wB, .int wU]))] s.heap.size = A at hD ⊢
  have hA : ∀ q : Nat, s.heap.size ≤ q → A q := fun q h => by rw [← hAe]; exact Or.inr h
  have hS : va_S A s.heap s.heap [] := va_S.rf
  have hl := lv_entry ([.ref g0, .int sv, .int l2, .int iv, .int v]) (n := 6) (Nat.le_of_ble_eq_true rfl)
  rw [lg_entry_eq]
  generalize (lg_sl ([.ref g0, .int sv, .int l2, .int iv, .int v]) ++ List.replicate (6 - (lg_sl ([.ref g0, .int sv, .int l2, .int iv, .int v])).length) Slot.unset).toArray = ls at hl ⊢
  have hl : lv_has ls 6 [(0, .ref g0), (1, .int sv), (2, .int l2), (3, .int iv), (4, .int v)] := hl
  refine lv_iload_n hx hb dX8_item_0 rfl (lv_at hl 1 rfl) ?_
  refine lv_iconst (v := 0) hx hb dX8_item_1 (by decide) ?_
  refine lv_iconst (v := 3) hx hb dX8_item_2 (by decide) ?_
  refine rSi hE ⟨hx, hb, hml, hown, hts⟩ (c_X8_within l E sv 0 3 ) (va_cwS 3 hts gX8_item_X8_within rfl rfl rfl (by decide +kernel) ⟨Nat.le_of_ble_eq_true rfl, Nat.le_of_ble_eq_true rfl⟩) (hP.sub [] rfl) rfl hl.1 rfl (Nat.le_of_ble_eq_true rfl) dX8_item_3 ⟨(Nat.zero_le _), (Nat.zero_le _)⟩ ?_
  refine lv_if_eq (tgt := 32) hx hb dX8_item_6 (by decide) (fun c_6 => ?_) (fun c_6 => ?_)
  · have c_6 := fWi_0 c_6
    refine lv_iconst (v := (-1)) hx hb dX8_item_32 (by decide) ?_
    have hP9 : va_P E.1 vwCl [(g0, .inr (8, [.ref gm, .ref gk, .ref gs, .ref ga, .ref gl, .ref gh, .ref gd, .int wA, .int wB, .int wU]))] s.heap := hP.sub [0] rfl
    have hD9 : va_D A [(g0, .inr (8, [.ref gm, .ref gk, .ref gs, .ref ga, .ref gl, .ref gh, .ref gd, .int wA, .int wB, .int wU]))] := hD.sub [0] (by decide) rfl
    exact W.iret (v := (-1)) hx hb hr (fun t9 ht9 hW9 => ⟨⟨(-1), (), rfl, rfl, ⟨by rw [ht9]; exact hP9, hD9⟩⟩, hS.F ht9⟩) hS.2.2 dX8_item_33
  · have c_6 := fWi_1 c_6
    refine lv_iload_n hx hb dX8_item_9 rfl (lv_at hl 2 rfl) ?_
    refine lv_iconst (v := 0) hx hb dX8_item_10 (by decide) ?_
    refine lv_iconst (v := 2) hx hb dX8_item_11 (by decide) ?_
    refine rSi hE ⟨hx, hb, hml, hown, hts⟩ (c_X8_within l E l2 0 2 ) (va_cwS 3 hts gX8_item_X8_within rfl rfl rfl (by decide +kernel) ⟨Nat.le_of_ble_eq_true rfl, Nat.le_of_ble_eq_true rfl⟩) (hP.sub [] rfl) rfl hl.1 rfl (Nat.le_of_ble_eq_true rfl) dX8_item_12 ⟨(Nat.zero_le _), (Nat.zero_le _)⟩ ?_
    refine lv_if_eq (tgt := 32) hx hb dX8_item_15 (by decide) (fun c_15 => ?_) (fun c_15 => ?_)
    · have c_15 := fWi_0 c_15
      refine lv_iconst (v := (-1)) hx hb dX8_item_32 (by decide) ?_
      have hP9 : va_P E.1 vwCl [(g0, .inr (8, [.ref gm, .ref gk, .ref gs, .ref ga, .ref gl, .ref gh, .ref gd, .int wA, .int wB, .int wU]))] s.heap := hP.sub [0] rfl
      have hD9 : va_D A [(g0, .inr (8, [.ref gm, .ref gk, .ref gs, .ref ga, .ref gl, .ref gh, .ref gd, .int wA, .int wB, .int wU]))] := hD.sub [0] (by decide) rfl
      exact W.iret (v := (-1)) hx hb hr (fun t9 ht9 hW9 => ⟨⟨(-1), (), rfl, rfl, ⟨by rw [ht9]; exact hP9, hD9⟩⟩, hS.F ht9⟩) hS.2.2 dX8_item_33
    · have c_15 := fWi_1 c_15
      refine lv_iload hx hb dX8_item_18 (lv_at hl 4 rfl) ?_
      refine lv_sipush (v := (-30000)) hx hb dX8_item_20 (by decide) ?_
      refine lv_sipush (v := 30000) hx hb dX8_item_23 (by decide) ?_
      refine rSi hE ⟨hx, hb, hml, hown, hts⟩ (c_X8_within l E v (-30000) 30000 ) (va_cwS 3 hts gX8_item_X8_within rfl rfl rfl (by decide +kernel) ⟨Nat.le_of_ble_eq_true rfl, Nat.le_of_ble_eq_true rfl⟩) (hP.sub [] rfl) rfl hl.1 rfl (Nat.le_of_ble_eq_true rfl) dX8_item_26 ⟨(Nat.zero_le _), (Nat.zero_le _)⟩ ?_
      refine lv_if_ne (tgt := 34) hx hb dX8_item_29 (by decide) (fun c_29 => by exfalso; have c_29 := fWi_1 c_29; exact hno ⟨c_6, c_15, c_29⟩) (fun c_29 => ?_)
      have c_29 := fWi_0 c_29
      refine lv_iconst (v := (-1)) hx hb dX8_item_32 (by decide) ?_
      have hP9 : va_P E.1 vwCl [(g0, .inr (8, [.ref gm, .ref gk, .ref gs, .ref ga, .ref gl, .ref gh, .ref gd, .int wA, .int wB, .int wU]))] s.heap := hP.sub [0] rfl
      have hD9 : va_D A [(g0, .inr (8, [.ref gm, .ref gk, .ref gs, .ref ga, .ref gl, .ref gh, .ref gd, .int wA, .int wB, .int wU]))] := hD.sub [0] (by decide) rfl
      exact W.iret (v := (-1)) hx hb hr (fun t9 ht9 hW9 => ⟨⟨(-1), (), rfl, rfl, ⟨by rw [ht9]; exact hP9, hD9⟩⟩, hS.F ht9⟩) hS.2.2 dX8_item_33
set_option maxHeartbeats 1000000 in
set_option maxRecDepth 100000 in
theorem c_X8_item_mid (l : Launch) (E : EnvT) (sz : Nat) (g0 : Nat) (gm : Nat) (gk : Nat) (gs : Nat) (ga : Nat) (gl : Nat) (gh : Nat) (gd : Nat) (wA : Int32) (wB : Int32) (wU : Int32) (fs : Nat → Option Nat) (q1 : Nat) (a1 : Nat) (hd : Int32) (ln : Int32) (n : Nat) (st : Nat) (f : Nat → Int32) (kk : Nat) (l2 : Int32) (iv : Int32) (v : Int32) (hk : kk < 4) (hq : fs kk = some q1) (hl2 : 0 ≤ l2 ∧ l2 ≤ 2) (hv : (-30000) ≤ v ∧ v ≤ 30000) (hno : hd = 0 ∨ ¬ ln = l2 ∨ ¬ (0 ≤ iv ∧ iv ≤ nI n - 1)) : Met l yX8_item wsX8_item ({ frames := 1, cells := 0, slots := 0, locals := 22 }) (va_Pc [.ref g0, .int (nI kk), .int l2, .int iv, .int v] (PW E [(g0, .inr (8, [.ref gm, .ref gk, .ref gs, .ref ga, .ref gl, .ref gh, .ref gd, .int wA, .int wB, .int wU])), (gs, .inl (E.2 5, 4, .inr (.inr (.inr (.inr fs))))), (q1, .inr (7, [.ref a1, .int hd, .int ln, .int (nI n), .int (nI st)])), (a1, .inl (E.2 1, 200, .inl f))] sz)) (va_Qi (fun (r : Int32) (uu : Unit) => r = if hd = 0 then -11 else if ¬ ln = l2 then -12 else -13) (fun (uu : Unit) t => BW E (va_A [(g0, .inr (8, [.ref gm, .ref gk, .ref gs, .ref ga, .ref gl, .ref gh, .ref gd, .int wA, .int wB, .int wU])), (gs, .inl (E.2 5, 4, .inr (.inr (.inr (.inr fs))))), (q1, .inr (7, [.ref a1, .int hd, .int ln, .int (nI n), .int (nI st)])), (a1, .inl (E.2 1, 200, .inl f))] sz) [(g0, .inr (8, [.ref gm, .ref gk, .ref gs, .ref ga, .ref gl, .ref gh, .ref gd, .int wA, .int wB, .int wU])), (gs, .inl (E.2 5, 4, .inr (.inr (.inr (.inr fs))))), (q1, .inr (7, [.ref a1, .int hd, .int ln, .int (nI n), .int (nI st)])), (a1, .inl (E.2 1, 200, .inl f))] t) (va_A [(g0, .inr (8, [.ref gm, .ref gk, .ref gs, .ref ga, .ref gl, .ref gh, .ref gd, .int wA, .int wB, .int wU])), (gs, .inl (E.2 5, 4, .inr (.inr (.inr (.inr fs))))), (q1, .inr (7, [.ref a1, .int hd, .int ln, .int (nI n), .int (nI st)])), (a1, .inl (E.2 1, 200, .inl f))] sz)) 0 0 (va_A [(g0, .inr (8, [.ref gm, .ref gk, .ref gs, .ref ga, .ref gl, .ref gh, .ref gd, .int wA, .int wB, .int wU])), (gs, .inl (E.2 5, 4, .inr (.inr (.inr (.inr fs))))), (q1, .inr (7, [.ref a1, .int hd, .int ln, .int (nI n), .int (nI st)])), (a1, .inl (E.2 1, 200, .inl f))] sz) := by
  refine Met.ofW (cc := cX8_item) (maxL := 6) (ret := (some .int)) (by decide +kernel) rfl ?_
  intro p e s m args below meth c s₁ B hml hv
  obtain ⟨rfl, hsz, hP, hE, hD0⟩ := hv
  have hx := B.exec
  have hb := B.bytes
  have hr := B.returns
  have hts := atoms_spec (ws := wsX8_item) B.pre
  have hown : s.vm.findClass RX8 = some m.cls := findClass_of_methodNamed B.named
  have hlocks := B.notSynchronized
  have hK := hE.1
  have hNN := hE.2.1
  have hinX8 : ∀ w ∈ wsX80, w ∈ wsX8_item := fun w h => List.mem_cons_of_mem _ (List.mem_append_left _ (List.mem_append_right _ h))
  have hinX7 : ∀ w ∈ wsX70, w ∈ wsX8_item := fun w h => List.mem_cons_of_mem _ (List.mem_append_right _ h)
  subst hsz
  have hD := hD0.self (sz := s.heap.size)
  generalize hAe : va_A [(g0, .inr (8, [.ref gm, .ref gk, .ref gs, .ref ga, .ref gl, .ref gh, .ref gd, .int wA, .int wB, .int wU])), (gs, .inl (E.2 5, 4, .inr (.inr (.inr (.inr fs))))), (q1, .inr (7, [.ref a1, .int hd, .int ln, .int (nI n), .int (nI st)])), (a1, .inl (E.2 1, 200, .inl f))] s.heap.size = A at hD ⊢
  have hA : ∀ q : Nat, s.heap.size ≤ q → A q := fun q h => by rw [← hAe]; exact Or.inr h
  have hS : va_S A s.heap s.heap [] := va_S.rf
  have hl := lv_entry ([.ref g0, .int (nI kk), .int l2, .int iv, .int v]) (n := 6) (Nat.le_of_ble_eq_true rfl)
  rw [lg_entry_eq]
  generalize (lg_sl ([.ref g0, .int (nI kk), .int l2, .int iv, .int v]) ++ List.replicate (6 - (lg_sl ([.ref g0, .int (nI kk), .int l2, .int iv, .int v])).length) Slot.unset).toArray = ls at hl ⊢
  have hl : lv_has ls 6 [(0, .ref g0), (1, .int (nI kk)), (2, .int l2), (3, .int iv), (4, .int v)] := hl
  refine lv_iload_n hx hb dX8_item_0 rfl (lv_at hl 1 rfl) ?_
  refine lv_iconst (v := 0) hx hb dX8_item_1 (by decide) ?_
  refine lv_iconst (v := 3) hx hb dX8_item_2 (by decide) ?_
  refine rSi hE ⟨hx, hb, hml, hown, hts⟩ (c_X8_within l E (nI kk) 0 3 ) (va_cwS 3 hts gX8_item_X8_within rfl rfl rfl (by decide +kernel) ⟨Nat.le_of_ble_eq_true rfl, Nat.le_of_ble_eq_true rfl⟩) (hP.sub [] rfl) rfl hl.1 rfl (Nat.le_of_ble_eq_true rfl) dX8_item_3 ⟨(Nat.zero_le _), (Nat.zero_le _)⟩ ?_
  refine lv_if_eq (tgt := 32) hx hb dX8_item_6 (by decide) (fun c_6 => by exfalso; have c_6 := fWi_0 c_6; exact c_6 ⟨nI_pos' (by omega), nI_le (b := 3) (by omega) (by omega)⟩) (fun c_6 => ?_)
  have c_6 := fWi_1 c_6
  refine lv_iload_n hx hb dX8_item_9 rfl (lv_at hl 2 rfl) ?_
  refine lv_iconst (v := 0) hx hb dX8_item_10 (by decide) ?_
  refine lv_iconst (v := 2) hx hb dX8_item_11 (by decide) ?_
  refine rSi hE ⟨hx, hb, hml, hown, hts⟩ (c_X8_within l E l2 0 2 ) (va_cwS 3 hts gX8_item_X8_within rfl rfl rfl (by decide +kernel) ⟨Nat.le_of_ble_eq_true rfl, Nat.le_of_ble_eq_true rfl⟩) (hP.sub [] rfl) rfl hl.1 rfl (Nat.le_of_ble_eq_true rfl) dX8_item_12 ⟨(Nat.zero_le _), (Nat.zero_le _)⟩ ?_
  refine lv_if_eq (tgt := 32) hx hb dX8_item_15 (by decide) (fun c_15 => by exfalso; have c_15 := fWi_0 c_15; exact c_15 hl2) (fun c_15 => ?_)
  have c_15 := fWi_1 c_15
  refine lv_iload hx hb dX8_item_18 (lv_at hl 4 rfl) ?_
  refine lv_sipush (v := (-30000)) hx hb dX8_item_20 (by decide) ?_
  refine lv_sipush (v := 30000) hx hb dX8_item_23 (by decide) ?_
  refine rSi hE ⟨hx, hb, hml, hown, hts⟩ (c_X8_within l E v (-30000) 30000 ) (va_cwS 3 hts gX8_item_X8_within rfl rfl rfl (by decide +kernel) ⟨Nat.le_of_ble_eq_true rfl, Nat.le_of_ble_eq_true rfl⟩) (hP.sub [] rfl) rfl hl.1 rfl (Nat.le_of_ble_eq_true rfl) dX8_item_26 ⟨(Nat.zero_le _), (Nat.zero_le _)⟩ ?_
  refine lv_if_ne (tgt := 34) hx hb dX8_item_29 (by decide) (fun c_29 => ?_) (fun c_29 => by exfalso; have c_29 := fWi_0 c_29; exact c_29 hv)
  have c_29 := fWi_1 c_29
  refine lv_aload_n hx hb dX8_item_34 rfl (lv_at hl 0 rfl) ?_
  refine va_get (D := E.1) (ci := 8) (v := .ref gs) (C := RX8) (T := TX8) (N := 10) hx hb hts hinX8 hown hK hP 0 rfl rfl 2 (by decide) (hts (.fieldLink RX8 25 "WornRings" "sheets" "[LWornRings$Sheet;") (by decide +kernel)) (fun _ h9 => h9) rfl dX8_item_35 ?_
  refine lv_iload_n hx hb dX8_item_38 rfl (lv_at hl 1 rfl) ?_
  refine va_aldq hx hb hK hP 1 5 rfl rfl (vp_in_nI (by omega) (by omega)) dX8_item_39 ?_
  rw [nI_clamp (n := kk) (by omega)]
  rw [hq]
  refine W.eq (g2 := F0 m 40 ls [.ref q1]) rfl ?_
  refine lv_astore (lv' := [(5, .ref q1), (0, .ref g0), (1, .int (nI kk)), (2, .int l2), (3, .int iv), (4, .int v)]) hx hb dX8_item_40 hl (by decide) rfl (fun ls hl => ?_)
  refine lv_aload hx hb dX8_item_42 (lv_at hl 0 rfl) ?_
  refine va_getN (D := E.1) (host := "WornRings") (ref := "WornRings$Sheet") (ci := 7) (v := .int hd) (C := RX7) (T := TX7) (N := 5) hx hb hts hinX7 hown hK hP 2 rfl rfl 1 (by decide) (va_Nw.use rfl (hNN (.fieldLinkNest RX8 140 "WornRings$Sheet" "held" "Z" "WornRings") (by decide +kernel))) (fun _ h9 => h9) rfl dX8_item_44 ?_
  refine lv_if_ne (tgt := 53) hx hb dX8_item_47 (by decide) (fun c_47 => ?_) (fun c_47 => ?_)
  · refine lv_aload hx hb dX8_item_53 (lv_at hl 0 rfl) ?_
    refine va_getN (D := E.1) (host := "WornRings") (ref := "WornRings$Sheet") (ci := 7) (v := .int ln) (C := RX7) (T := TX7) (N := 5) hx hb hts hinX7 hown hK hP 2 rfl rfl 2 (by decide) (va_Nw.use rfl (hNN (.fieldLinkNest RX8 147 "WornRings$Sheet" "lane" "I" "WornRings") (by decide +kernel))) (fun _ h9 => h9) rfl dX8_item_55 ?_
    refine lv_iload_n hx hb dX8_item_58 rfl (lv_at hl 3 rfl) ?_
    refine lv_icmp_eq (tgt := 65) hx hb dX8_item_59 (by decide) (fun c_59 => ?_) (fun c_59 => ?_)
    · refine lv_iload_n hx hb dX8_item_65 rfl (lv_at hl 4 rfl) ?_
      refine lv_iconst (v := 0) hx hb dX8_item_66 (by decide) ?_
      refine lv_aload hx hb dX8_item_67 (lv_at hl 0 rfl) ?_
      refine va_getN (D := E.1) (host := "WornRings") (ref := "WornRings$Sheet") (ci := 7) (v := .int (nI n)) (C := RX7) (T := TX7) (N := 5) hx hb hts hinX7 hown hK hP 2 rfl rfl 3 (by decide) (va_Nw.use rfl (hNN (.fieldLinkNest RX8 144 "WornRings$Sheet" "length" "I" "WornRings") (by decide +kernel))) (fun _ h9 => h9) rfl dX8_item_69 ?_
      refine lv_iconst (v := 1) hx hb dX8_item_72 (by decide) ?_
      refine lv_isub hx hb dX8_item_73 ?_
      refine rSi hE ⟨hx, hb, hml, hown, hts⟩ (c_X8_within l E iv 0 ((nI n) - 1) ) (va_cwS 3 hts gX8_item_X8_within rfl rfl rfl (by decide +kernel) ⟨Nat.le_of_ble_eq_true rfl, Nat.le_of_ble_eq_true rfl⟩) (hP.sub [] rfl) rfl hl.1 rfl (Nat.le_of_ble_eq_true rfl) dX8_item_74 ⟨(Nat.zero_le _), (Nat.zero_le _)⟩ ?_
      refine lv_if_ne (tgt := 83) hx hb dX8_item_77 (by decide) (fun c_77 => by exfalso; have c_77 := fWi_1 c_77; exact hno.elim c_47 (fun h9 => h9.elim (fun h8 => h8 c_59) (fun h8 => h8 c_77))) (fun c_77 => ?_)
      have c_77 := fWi_0 c_77
      refine lv_bipush (v := (-13)) hx hb dX8_item_80 (by decide) ?_
      have hP9 : va_P E.1 vwCl [(g0, .inr (8, [.ref gm, .ref gk, .ref gs, .ref ga, .ref gl, .ref gh, .ref gd, .int wA, .int wB, .int wU])), (gs, .inl (E.2 5, 4, .inr (.inr (.inr (.inr fs))))), (q1, .inr (7, [.ref a1, .int hd, .int ln, .int (nI n), .int (nI st)])), (a1, .inl (E.2 1, 200, .inl f))] s.heap := hP.sub [0, 1, 2, 3] rfl
      have hD9 : va_D A [(g0, .inr (8, [.ref gm, .ref gk, .ref gs, .ref ga, .ref gl, .ref gh, .ref gd, .int wA, .int wB, .int wU])), (gs, .inl (E.2 5, 4, .inr (.inr (.inr (.inr fs))))), (q1, .inr (7, [.ref a1, .int hd, .int ln, .int (nI n), .int (nI st)])), (a1, .inl (E.2 1, 200, .inl f))] := hD.sub [0, 1, 2, 3] (by decide) rfl
      exact W.iret (v := (-13)) hx hb hr (fun t9 ht9 hW9 => ⟨⟨(-13), (), rfl, by rw [if_neg c_47, if_neg (fun h9 => h9 c_59)], ⟨by rw [ht9]; exact hP9, hD9⟩⟩, hS.F ht9⟩) hS.2.2 dX8_item_82
    · refine lv_bipush (v := (-12)) hx hb dX8_item_62 (by decide) ?_
      have hP9 : va_P E.1 vwCl [(g0, .inr (8, [.ref gm, .ref gk, .ref gs, .ref ga, .ref gl, .ref gh, .ref gd, .int wA, .int wB, .int wU])), (gs, .inl (E.2 5, 4, .inr (.inr (.inr (.inr fs))))), (q1, .inr (7, [.ref a1, .int hd, .int ln, .int (nI n), .int (nI st)])), (a1, .inl (E.2 1, 200, .inl f))] s.heap := hP.sub [0, 1, 2, 3] rfl
      have hD9 : va_D A [(g0, .inr (8, [.ref gm, .ref gk, .ref gs, .ref ga, .ref gl, .ref gh, .ref gd, .int wA, .int wB, .int wU])), (gs, .inl (E.2 5, 4, .inr (.inr (.inr (.inr fs))))), (q1, .inr (7, [.ref a1, .int hd, .int ln, .int (nI n), .int (nI st)])), (a1, .inl (E.2 1, 200, .inl f))] := hD.sub [0, 1, 2, 3] (by decide) rfl
      exact W.iret (v := (-12)) hx hb hr (fun t9 ht9 hW9 => ⟨⟨(-12), (), rfl, by rw [if_neg c_47, if_pos c_59], ⟨by rw [ht9]; exact hP9, hD9⟩⟩, hS.F ht9⟩) hS.2.2 dX8_item_64
  · refine lv_bipush (v := (-11)) hx hb dX8_item_50 (by decide) ?_
    have hP9 : va_P E.1 vwCl [(g0, .inr (8, [.ref gm, .ref gk, .ref gs, .ref ga, .ref gl, .ref gh, .ref gd, .int wA, .int wB, .int wU])), (gs, .inl (E.2 5, 4, .inr (.inr (.inr (.inr fs))))), (q1, .inr (7, [.ref a1, .int hd, .int ln, .int (nI n), .int (nI st)])), (a1, .inl (E.2 1, 200, .inl f))] s.heap := hP.sub [0, 1, 2, 3] rfl
    have hD9 : va_D A [(g0, .inr (8, [.ref gm, .ref gk, .ref gs, .ref ga, .ref gl, .ref gh, .ref gd, .int wA, .int wB, .int wU])), (gs, .inl (E.2 5, 4, .inr (.inr (.inr (.inr fs))))), (q1, .inr (7, [.ref a1, .int hd, .int ln, .int (nI n), .int (nI st)])), (a1, .inl (E.2 1, 200, .inl f))] := hD.sub [0, 1, 2, 3] (by decide) rfl
    exact W.iret (v := (-11)) hx hb hr (fun t9 ht9 hW9 => ⟨⟨(-11), (), rfl, (if_pos c_47).symm, ⟨by rw [ht9]; exact hP9, hD9⟩⟩, hS.F ht9⟩) hS.2.2 dX8_item_52
set_option maxHeartbeats 1000000 in
set_option maxRecDepth 100000 in
theorem c_X8_item_yes (l : Launch) (E : EnvT) (sz : Nat) (g0 : Nat) (gm : Nat) (gk : Nat) (gs : Nat) (ga : Nat) (gl : Nat) (gh : Nat) (gd : Nat) (wA : Int32) (wB : Int32) (wU : Int32) (fs : Nat → Option Nat) (q1 : Nat) (a1 : Nat) (hd : Int32) (ln : Int32) (n : Nat) (st : Nat) (f : Nat → Int32) (kk : Nat) (l2 : Int32) (j : Nat) (v : Int32) (hk : kk < 4) (hq : fs kk = some q1) (hl2 : 0 ≤ l2 ∧ l2 ≤ 2) (hv : (-30000) ≤ v ∧ v ≤ 30000) (hhd : ¬ hd = 0) (hln : ln = l2) (hj : j < n) (hn : n ≤ 200) : Met l yX8_item wsX8_item ({ frames := 2, cells := 0, slots := 0, locals := 44 }) (va_Pc [.ref g0, .int (nI kk), .int l2, .int (nI j), .int v] (PW E [(g0, .inr (8, [.ref gm, .ref gk, .ref gs, .ref ga, .ref gl, .ref gh, .ref gd, .int wA, .int wB, .int wU])), (gs, .inl (E.2 5, 4, .inr (.inr (.inr (.inr fs))))), (q1, .inr (7, [.ref a1, .int hd, .int ln, .int (nI n), .int (nI st)])), (a1, .inl (E.2 1, 200, .inl f))] sz)) (va_Qi (fun (r : Int32) (uu : Unit) => r = 1) (fun (uu : Unit) t => BW E (va_A [(g0, .inr (8, [.ref gm, .ref gk, .ref gs, .ref ga, .ref gl, .ref gh, .ref gd, .int wA, .int wB, .int wU])), (gs, .inl (E.2 5, 4, .inr (.inr (.inr (.inr fs))))), (q1, .inr (7, [.ref a1, .int hd, .int ln, .int (nI n), .int (nI st)])), (a1, .inl (E.2 1, 200, .inl f))] sz) [(g0, .inr (8, [.ref gm, .ref gk, .ref gs, .ref ga, .ref gl, .ref gh, .ref gd, .int wA, .int wB, .int wU])), (gs, .inl (E.2 5, 4, .inr (.inr (.inr (.inr fs))))), (q1, .inr (7, [.ref a1, .int hd, .int ln, .int (nI n), .int (nI st)])), (a1, .inl (E.2 1, 200, .inl (upd f j (fPut ln v))))] t) (va_A [(g0, .inr (8, [.ref gm, .ref gk, .ref gs, .ref ga, .ref gl, .ref gh, .ref gd, .int wA, .int wB, .int wU])), (gs, .inl (E.2 5, 4, .inr (.inr (.inr (.inr fs))))), (q1, .inr (7, [.ref a1, .int hd, .int ln, .int (nI n), .int (nI st)])), (a1, .inl (E.2 1, 200, .inl f))] sz)) 0 0 (va_A [(g0, .inr (8, [.ref gm, .ref gk, .ref gs, .ref ga, .ref gl, .ref gh, .ref gd, .int wA, .int wB, .int wU])), (gs, .inl (E.2 5, 4, .inr (.inr (.inr (.inr fs))))), (q1, .inr (7, [.ref a1, .int hd, .int ln, .int (nI n), .int (nI st)])), (a1, .inl (E.2 1, 200, .inl f))] sz) := by
  refine Met.ofW (cc := cX8_item) (maxL := 6) (ret := (some .int)) (by decide +kernel) rfl ?_
  intro p e s m args below meth c s₁ B hml hv
  obtain ⟨rfl, hsz, hP, hE, hD0⟩ := hv
  have hx := B.exec
  have hb := B.bytes
  have hr := B.returns
  have hts := atoms_spec (ws := wsX8_item) B.pre
  have hown : s.vm.findClass RX8 = some m.cls := findClass_of_methodNamed B.named
  have hlocks := B.notSynchronized
  have hK := hE.1
  have hNN := hE.2.1
  have hinX8 : ∀ w ∈ wsX80, w ∈ wsX8_item := fun w h => List.mem_cons_of_mem _ (List.mem_append_left _ (List.mem_append_right _ h))
  have hinX7 : ∀ w ∈ wsX70, w ∈ wsX8_item := fun w h => List.mem_cons_of_mem _ (List.mem_append_right _ h)
  subst hsz
  have hD := hD0.self (sz := s.heap.size)
  generalize hAe : va_A [(g0, .inr (8, [.ref gm, .ref gk, .ref gs, .ref ga, .ref gl, .ref gh, .ref gd, .int wA, .int wB, .int wU])), (gs, .inl (E.2 5, 4, .inr (.inr (.inr (.inr fs))))), (q1, .inr (7, [.ref a1, .int hd, .int ln, .int (nI n), .int (nI st)])), (a1, .inl (E.2 1, 200, .inl f))] s.heap.size = A at hD ⊢
  have hA : ∀ q : Nat, s.heap.size ≤ q → A q := fun q h => by rw [← hAe]; exact Or.inr h
  have hS : va_S A s.heap s.heap [] := va_S.rf
  have hl := lv_entry ([.ref g0, .int (nI kk), .int l2, .int (nI j), .int v]) (n := 6) (Nat.le_of_ble_eq_true rfl)
  rw [lg_entry_eq]
  generalize (lg_sl ([.ref g0, .int (nI kk), .int l2, .int (nI j), .int v]) ++ List.replicate (6 - (lg_sl ([.ref g0, .int (nI kk), .int l2, .int (nI j), .int v])).length) Slot.unset).toArray = ls at hl ⊢
  have hl : lv_has ls 6 [(0, .ref g0), (1, .int (nI kk)), (2, .int l2), (3, .int (nI j)), (4, .int v)] := hl
  refine lv_iload_n hx hb dX8_item_0 rfl (lv_at hl 1 rfl) ?_
  refine lv_iconst (v := 0) hx hb dX8_item_1 (by decide) ?_
  refine lv_iconst (v := 3) hx hb dX8_item_2 (by decide) ?_
  refine rSi hE ⟨hx, hb, hml, hown, hts⟩ (c_X8_within l E (nI kk) 0 3 ) (va_cwS 3 hts gX8_item_X8_within rfl rfl rfl (by decide +kernel) ⟨Nat.le_of_ble_eq_true rfl, Nat.le_of_ble_eq_true rfl⟩) (hP.sub [] rfl) rfl hl.1 rfl (Nat.le_of_ble_eq_true rfl) dX8_item_3 ⟨(Nat.zero_le _), (Nat.zero_le _)⟩ ?_
  refine lv_if_eq (tgt := 32) hx hb dX8_item_6 (by decide) (fun c_6 => by exfalso; have c_6 := fWi_0 c_6; exact c_6 ⟨nI_pos' (by omega), nI_le (b := 3) (by omega) (by omega)⟩) (fun c_6 => ?_)
  have c_6 := fWi_1 c_6
  refine lv_iload_n hx hb dX8_item_9 rfl (lv_at hl 2 rfl) ?_
  refine lv_iconst (v := 0) hx hb dX8_item_10 (by decide) ?_
  refine lv_iconst (v := 2) hx hb dX8_item_11 (by decide) ?_
  refine rSi hE ⟨hx, hb, hml, hown, hts⟩ (c_X8_within l E l2 0 2 ) (va_cwS 3 hts gX8_item_X8_within rfl rfl rfl (by decide +kernel) ⟨Nat.le_of_ble_eq_true rfl, Nat.le_of_ble_eq_true rfl⟩) (hP.sub [] rfl) rfl hl.1 rfl (Nat.le_of_ble_eq_true rfl) dX8_item_12 ⟨(Nat.zero_le _), (Nat.zero_le _)⟩ ?_
  refine lv_if_eq (tgt := 32) hx hb dX8_item_15 (by decide) (fun c_15 => by exfalso; have c_15 := fWi_0 c_15; exact c_15 hl2) (fun c_15 => ?_)
  have c_15 := fWi_1 c_15
  refine lv_iload hx hb dX8_item_18 (lv_at hl 4 rfl) ?_
  refine lv_sipush (v := (-30000)) hx hb dX8_item_20 (by decide) ?_
  refine lv_sipush (v := 30000) hx hb dX8_item_23 (by decide) ?_
  refine rSi hE ⟨hx, hb, hml, hown, hts⟩ (c_X8_within l E v (-30000) 30000 ) (va_cwS 3 hts gX8_item_X8_within rfl rfl rfl (by decide +kernel) ⟨Nat.le_of_ble_eq_true rfl, Nat.le_of_ble_eq_true rfl⟩) (hP.sub [] rfl) rfl hl.1 rfl (Nat.le_of_ble_eq_true rfl) dX8_item_26 ⟨(Nat.zero_le _), (Nat.zero_le _)⟩ ?_
  refine lv_if_ne (tgt := 34) hx hb dX8_item_29 (by decide) (fun c_29 => ?_) (fun c_29 => by exfalso; have c_29 := fWi_0 c_29; exact c_29 hv)
  have c_29 := fWi_1 c_29
  refine lv_aload_n hx hb dX8_item_34 rfl (lv_at hl 0 rfl) ?_
  refine va_get (D := E.1) (ci := 8) (v := .ref gs) (C := RX8) (T := TX8) (N := 10) hx hb hts hinX8 hown hK hP 0 rfl rfl 2 (by decide) (hts (.fieldLink RX8 25 "WornRings" "sheets" "[LWornRings$Sheet;") (by decide +kernel)) (fun _ h9 => h9) rfl dX8_item_35 ?_
  refine lv_iload_n hx hb dX8_item_38 rfl (lv_at hl 1 rfl) ?_
  refine va_aldq hx hb hK hP 1 5 rfl rfl (vp_in_nI (by omega) (by omega)) dX8_item_39 ?_
  rw [nI_clamp (n := kk) (by omega)]
  rw [hq]
  refine W.eq (g2 := F0 m 40 ls [.ref q1]) rfl ?_
  refine lv_astore (lv' := [(5, .ref q1), (0, .ref g0), (1, .int (nI kk)), (2, .int l2), (3, .int (nI j)), (4, .int v)]) hx hb dX8_item_40 hl (by decide) rfl (fun ls hl => ?_)
  refine lv_aload hx hb dX8_item_42 (lv_at hl 0 rfl) ?_
  refine va_getN (D := E.1) (host := "WornRings") (ref := "WornRings$Sheet") (ci := 7) (v := .int hd) (C := RX7) (T := TX7) (N := 5) hx hb hts hinX7 hown hK hP 2 rfl rfl 1 (by decide) (va_Nw.use rfl (hNN (.fieldLinkNest RX8 140 "WornRings$Sheet" "held" "Z" "WornRings") (by decide +kernel))) (fun _ h9 => h9) rfl dX8_item_44 ?_
  refine lv_if_ne (tgt := 53) hx hb dX8_item_47 (by decide) (fun c_47 => ?_) (fun c_47 => by exfalso; exact hhd c_47)
  refine lv_aload hx hb dX8_item_53 (lv_at hl 0 rfl) ?_
  refine va_getN (D := E.1) (host := "WornRings") (ref := "WornRings$Sheet") (ci := 7) (v := .int ln) (C := RX7) (T := TX7) (N := 5) hx hb hts hinX7 hown hK hP 2 rfl rfl 2 (by decide) (va_Nw.use rfl (hNN (.fieldLinkNest RX8 147 "WornRings$Sheet" "lane" "I" "WornRings") (by decide +kernel))) (fun _ h9 => h9) rfl dX8_item_55 ?_
  refine lv_iload_n hx hb dX8_item_58 rfl (lv_at hl 3 rfl) ?_
  refine lv_icmp_eq (tgt := 65) hx hb dX8_item_59 (by decide) (fun c_59 => ?_) (fun c_59 => by exfalso; exact c_59 hln)
  refine lv_iload_n hx hb dX8_item_65 rfl (lv_at hl 4 rfl) ?_
  refine lv_iconst (v := 0) hx hb dX8_item_66 (by decide) ?_
  refine lv_aload hx hb dX8_item_67 (lv_at hl 0 rfl) ?_
  refine va_getN (D := E.1) (host := "WornRings") (ref := "WornRings$Sheet") (ci := 7) (v := .int (nI n)) (C := RX7) (T := TX7) (N := 5) hx hb hts hinX7 hown hK hP 2 rfl rfl 3 (by decide) (va_Nw.use rfl (hNN (.fieldLinkNest RX8 144 "WornRings$Sheet" "length" "I" "WornRings") (by decide +kernel))) (fun _ h9 => h9) rfl dX8_item_69 ?_
  refine lv_iconst (v := 1) hx hb dX8_item_72 (by decide) ?_
  refine lv_isub hx hb dX8_item_73 ?_
  refine rSi hE ⟨hx, hb, hml, hown, hts⟩ (c_X8_within l E (nI j) 0 ((nI n) - 1) ) (va_cwS 3 hts gX8_item_X8_within rfl rfl rfl (by decide +kernel) ⟨Nat.le_of_ble_eq_true rfl, Nat.le_of_ble_eq_true rfl⟩) (hP.sub [] rfl) rfl hl.1 rfl (Nat.le_of_ble_eq_true rfl) dX8_item_74 ⟨(Nat.zero_le _), (Nat.zero_le _)⟩ ?_
  refine lv_if_ne (tgt := 83) hx hb dX8_item_77 (by decide) (fun c_77 => ?_) (fun c_77 => by exfalso; have c_77 := fWi_0 c_77; exact c_77 (ix_to hj (by omega)))
  have c_77 := fWi_1 c_77
  refine lv_aload hx hb dX8_item_83 (lv_at hl 0 rfl) ?_
  refine lv_iload_n hx hb dX8_item_85 rfl (lv_at hl 4 rfl) ?_
  refine lv_iload hx hb dX8_item_86 (lv_at hl 5 rfl) ?_
  refine wVv (wr := [(g0, .inr (8, [.ref gm, .ref gk, .ref gs, .ref ga, .ref gl, .ref gh, .ref gd, .int wA, .int wB, .int wU])), (gs, .inl (E.2 5, 4, .inr (.inr (.inr (.inr fs)))))]) hE ⟨hx, hb, hml, hown, hts⟩ (c_X7_put l E s.heap.size q1 a1 hd ln n st f j v (hj) (hn)) (cwV 2 hts gX8_item_X7_put rfl rfl rfl (by decide +kernel) ⟨Nat.le_of_ble_eq_true rfl, Nat.le_of_ble_eq_true rfl⟩) hP hD hS hA [2, 3] [0, 1] rfl rfl (by decide) (by decide) (by decide) 0 7 rfl rfl rfl hl.1 rfl (Nat.le_of_ble_eq_true rfl) dX8_item_88 ⟨(Nat.zero_le _), (Nat.zero_le _)⟩ (fun u H locs hw hP hD hS => ?_)
  have hP : va_P E.1 vwCl [(g0, .inr (8, [.ref gm, .ref gk, .ref gs, .ref ga, .ref gl, .ref gh, .ref gd, .int wA, .int wB, .int wU])), (gs, .inl (E.2 5, 4, .inr (.inr (.inr (.inr fs))))), (q1, .inr (7, [.ref a1, .int hd, .int ln, .int (nI n), .int (nI st)])), (a1, .inl (E.2 1, 200, .inl (upd f j (fPut ln v))))] H := hP
  have hD : va_D A [(g0, .inr (8, [.ref gm, .ref gk, .ref gs, .ref ga, .ref gl, .ref gh, .ref gd, .int wA, .int wB, .int wU])), (gs, .inl (E.2 5, 4, .inr (.inr (.inr (.inr fs))))), (q1, .inr (7, [.ref a1, .int hd, .int ln, .int (nI n), .int (nI st)])), (a1, .inl (E.2 1, 200, .inl (upd f j (fPut ln v))))] := hD
  refine lv_iconst (v := 1) hx hb dX8_item_91 (by decide) ?_
  have hP9 : va_P E.1 vwCl [(g0, .inr (8, [.ref gm, .ref gk, .ref gs, .ref ga, .ref gl, .ref gh, .ref gd, .int wA, .int wB, .int wU])), (gs, .inl (E.2 5, 4, .inr (.inr (.inr (.inr fs))))), (q1, .inr (7, [.ref a1, .int hd, .int ln, .int (nI n), .int (nI st)])), (a1, .inl (E.2 1, 200, .inl (upd f j (fPut ln v))))] H := hP.sub [0, 1, 2, 3] rfl
  have hD9 : va_D A [(g0, .inr (8, [.ref gm, .ref gk, .ref gs, .ref ga, .ref gl, .ref gh, .ref gd, .int wA, .int wB, .int wU])), (gs, .inl (E.2 5, 4, .inr (.inr (.inr (.inr fs))))), (q1, .inr (7, [.ref a1, .int hd, .int ln, .int (nI n), .int (nI st)])), (a1, .inl (E.2 1, 200, .inl (upd f j (fPut ln v))))] := hD.sub [0, 1, 2, 3] (by decide) rfl
  exact W.iret (v := 1) hx hb hr (fun t9 ht9 hW9 => ⟨⟨1, (), rfl, rfl, ⟨by rw [ht9]; exact hP9, hD9⟩⟩, hS.F ht9⟩) hS.2.2 dX8_item_92
set_option maxHeartbeats 1000000 in
set_option maxRecDepth 100000 in
theorem c_X8_cut_no (l : Launch) (E : EnvT) (sz : Nat) (g0 : Nat) (gm : Nat) (gk : Nat) (gs : Nat) (ga : Nat) (gl : Nat) (gh : Nat) (gd : Nat) (wA : Int32) (wB : Int32) (wU : Int32) (sv : Int32) (tv : Int32) (cv : Int32) (hno : ¬ ((0 ≤ sv ∧ sv ≤ 3) ∧ (¬ tv < 0) ∧ (1 ≤ cv ∧ cv ≤ 40))) : Met l yX8_cut wsX8_cut ({ frames := 1, cells := 0, slots := 0, locals := 22 }) (va_Pc [.ref g0, .int sv, .int tv, .int cv] (PW E [(g0, .inr (8, [.ref gm, .ref gk, .ref gs, .ref ga, .ref gl, .ref gh, .ref gd, .int wA, .int wB, .int wU]))] sz)) (va_Qi (fun (r : Int32) (uu : Unit) => r = -1) (fun (uu : Unit) t => BW E (va_A [(g0, .inr (8, [.ref gm, .ref gk, .ref gs, .ref ga, .ref gl, .ref gh, .ref gd, .int wA, .int wB, .int wU]))] sz) [(g0, .inr (8, [.ref gm, .ref gk, .ref gs, .ref ga, .ref gl, .ref gh, .ref gd, .int wA, .int wB, .int wU]))] t) (va_A [(g0, .inr (8, [.ref gm, .ref gk, .ref gs, .ref ga, .ref gl, .ref gh, .ref gd, .int wA, .int wB, .int wU]))] sz)) 0 0 (va_A [(g0, .inr (8, [.ref gm, .ref gk, .ref gs, .ref ga, .ref gl, .ref gh, .ref gd, .int wA, .int wB, .int wU]))] sz) := by
  refine Met.ofW (cc := cX8_cut) (maxL := 5) (ret := (some .int)) (by decide +kernel) rfl ?_
  intro p e s m args below meth c s₁ B hml hv
  obtain ⟨rfl, hsz, hP, hE, hD0⟩ := hv
  have hx := B.exec
  have hb := B.bytes
  have hr := B.returns
  have hts := atoms_spec (ws := wsX8_cut) B.pre
  have hown : s.vm.findClass RX8 = some m.cls := findClass_of_methodNamed B.named
  have hlocks := B.notSynchronized
  have hK := hE.1
  have hNN := hE.2.1
  subst hsz
  have hD := hD0.self (sz := s.heap.size)
  generalize hAe : va_A [(g0, .inr (8, [.ref gm, .ref gk, .ref gs, .ref ga, .ref gl, .ref gh, .ref gd, .int wA, .int wB, .int wU]))] s.heap.size = A at hD ⊢
  have hA : ∀ q : Nat, s.heap.size ≤ q → A q := fun q h => by rw [← hAe]; exact Or.inr h
  have hS : va_S A s.heap s.heap [] := va_S.rf
  have hl := lv_entry ([.ref g0, .int sv, .int tv, .int cv]) (n := 5) (Nat.le_of_ble_eq_true rfl)
  rw [lg_entry_eq]
  generalize (lg_sl ([.ref g0, .int sv, .int tv, .int cv]) ++ List.replicate (5 - (lg_sl ([.ref g0, .int sv, .int tv, .int cv])).length) Slot.unset).toArray = ls at hl ⊢
  have hl : lv_has ls 5 [(0, .ref g0), (1, .int sv), (2, .int tv), (3, .int cv)] := hl
  refine lv_iload_n hx hb dX8_cut_0 rfl (lv_at hl 1 rfl) ?_
  refine lv_iconst (v := 0) hx hb dX8_cut_1 (by decide) ?_
  refine lv_iconst (v := 3) hx hb dX8_cut_2 (by decide) ?_
  refine rSi hE ⟨hx, hb, hml, hown, hts⟩ (c_X8_within l E sv 0 3 ) (va_cwS 3 hts gX8_cut_X8_within rfl rfl rfl (by decide +kernel) ⟨Nat.le_of_ble_eq_true rfl, Nat.le_of_ble_eq_true rfl⟩) (hP.sub [] rfl) rfl hl.1 rfl (Nat.le_of_ble_eq_true rfl) dX8_cut_3 ⟨(Nat.zero_le _), (Nat.zero_le _)⟩ ?_
  refine lv_if_eq (tgt := 23) hx hb dX8_cut_6 (by decide) (fun c_6 => ?_) (fun c_6 => ?_)
  · have c_6 := fWi_0 c_6
    refine lv_iconst (v := (-1)) hx hb dX8_cut_23 (by decide) ?_
    have hP9 : va_P E.1 vwCl [(g0, .inr (8, [.ref gm, .ref gk, .ref gs, .ref ga, .ref gl, .ref gh, .ref gd, .int wA, .int wB, .int wU]))] s.heap := hP.sub [0] rfl
    have hD9 : va_D A [(g0, .inr (8, [.ref gm, .ref gk, .ref gs, .ref ga, .ref gl, .ref gh, .ref gd, .int wA, .int wB, .int wU]))] := hD.sub [0] (by decide) rfl
    exact W.iret (v := (-1)) hx hb hr (fun t9 ht9 hW9 => ⟨⟨(-1), (), rfl, rfl, ⟨by rw [ht9]; exact hP9, hD9⟩⟩, hS.F ht9⟩) hS.2.2 dX8_cut_24
  · have c_6 := fWi_1 c_6
    refine lv_iload_n hx hb dX8_cut_9 rfl (lv_at hl 2 rfl) ?_
    refine lv_if_lt (tgt := 23) hx hb dX8_cut_10 (by decide) (fun c_10 => ?_) (fun c_10 => ?_)
    · refine lv_iconst (v := (-1)) hx hb dX8_cut_23 (by decide) ?_
      have hP9 : va_P E.1 vwCl [(g0, .inr (8, [.ref gm, .ref gk, .ref gs, .ref ga, .ref gl, .ref gh, .ref gd, .int wA, .int wB, .int wU]))] s.heap := hP.sub [0] rfl
      have hD9 : va_D A [(g0, .inr (8, [.ref gm, .ref gk, .ref gs, .ref ga, .ref gl, .ref gh, .ref gd, .int wA, .int wB, .int wU]))] := hD.sub [0] (by decide) rfl
      exact W.iret (v := (-1)) hx hb hr (fun t9 ht9 hW9 => ⟨⟨(-1), (), rfl, rfl, ⟨by rw [ht9]; exact hP9, hD9⟩⟩, hS.F ht9⟩) hS.2.2 dX8_cut_24
    · refine lv_iload_n hx hb dX8_cut_13 rfl (lv_at hl 3 rfl) ?_
      refine lv_iconst (v := 1) hx hb dX8_cut_14 (by decide) ?_
      refine lv_bipush (v := 40) hx hb dX8_cut_15 (by decide) ?_
      refine rSi hE ⟨hx, hb, hml, hown, hts⟩ (c_X8_within l E cv 1 40 ) (va_cwS 3 hts gX8_cut_X8_within rfl rfl rfl (by decide +kernel) ⟨Nat.le_of_ble_eq_true rfl, Nat.le_of_ble_eq_true rfl⟩) (hP.sub [] rfl) rfl hl.1 rfl (Nat.le_of_ble_eq_true rfl) dX8_cut_17 ⟨(Nat.zero_le _), (Nat.zero_le _)⟩ ?_
      refine lv_if_ne (tgt := 25) hx hb dX8_cut_20 (by decide) (fun c_20 => by exfalso; have c_20 := fWi_1 c_20; exact hno ⟨c_6, c_10, c_20⟩) (fun c_20 => ?_)
      have c_20 := fWi_0 c_20
      refine lv_iconst (v := (-1)) hx hb dX8_cut_23 (by decide) ?_
      have hP9 : va_P E.1 vwCl [(g0, .inr (8, [.ref gm, .ref gk, .ref gs, .ref ga, .ref gl, .ref gh, .ref gd, .int wA, .int wB, .int wU]))] s.heap := hP.sub [0] rfl
      have hD9 : va_D A [(g0, .inr (8, [.ref gm, .ref gk, .ref gs, .ref ga, .ref gl, .ref gh, .ref gd, .int wA, .int wB, .int wU]))] := hD.sub [0] (by decide) rfl
      exact W.iret (v := (-1)) hx hb hr (fun t9 ht9 hW9 => ⟨⟨(-1), (), rfl, rfl, ⟨by rw [ht9]; exact hP9, hD9⟩⟩, hS.F ht9⟩) hS.2.2 dX8_cut_24
set_option maxHeartbeats 1000000 in
set_option maxRecDepth 100000 in
theorem c_X8_cut_mid (l : Launch) (E : EnvT) (sz : Nat) (g0 : Nat) (gm : Nat) (gk : Nat) (gs : Nat) (ga : Nat) (gl : Nat) (gh : Nat) (gd : Nat) (wA : Int32) (wB : Int32) (wU : Int32) (fs : Nat → Option Nat) (q1 : Nat) (a1 : Nat) (hd : Int32) (ln : Int32) (n : Nat) (st : Nat) (f : Nat → Int32) (a2 : Nat) (L : List Nat) (cn : Int32) (lt : Int32) (M : Nat → Nat) (kk : Nat) (tt : Nat) (cc : Nat) (hk : kk < 4) (hq : fs kk = some q1) (htt : tt < 2 ^ 31) (hc1 : 1 ≤ cc) (hc2 : cc ≤ 40) (hL : L.length ≤ 120) (hic : ∀ j, j + 1 < L.length → M j < M (j + 1)) (hbd : ∀ j, j < L.length → M j ≤ 1000000) (hn : n ≤ 200) (hs1 : 1 ≤ st) (hs2 : st ≤ 1000) (hno : hd = 0 ∨ ¬ (tt + cc + 1 ≤ L.length ∧ 1 ≤ n ∧ M (tt + cc - 1 + 1) ≤ (n - 1) * st)) : Met l yX8_cut wsX8_cut ({ frames := 2, cells := 0, slots := 0, locals := 43 }) (va_Pc [.ref g0, .int (nI kk), .int (nI tt), .int (nI cc)] (PW E [(g0, .inr (8, [.ref gm, .ref gk, .ref gs, .ref ga, .ref gl, .ref gh, .ref gd, .int wA, .int wB, .int wU])), (gs, .inl (E.2 5, 4, .inr (.inr (.inr (.inr fs))))), (q1, .inr (7, [.ref a1, .int hd, .int ln, .int (nI n), .int (nI st)])), (a1, .inl (E.2 1, 200, .inl f)), (gk, .inr (4, [.ref a2, .int (nI L.length), .int cn, .int lt])), (a2, .inl (E.2 1, 120, .inl (nA M)))] sz)) (va_Qi (fun (r : Int32) (uu : Unit) => r = if hd = 0 then -11 else -2) (fun (uu : Unit) t => BW E (va_A [(g0, .inr (8, [.ref gm, .ref gk, .ref gs, .ref ga, .ref gl, .ref gh, .ref gd, .int wA, .int wB, .int wU])), (gs, .inl (E.2 5, 4, .inr (.inr (.inr (.inr fs))))), (q1, .inr (7, [.ref a1, .int hd, .int ln, .int (nI n), .int (nI st)])), (a1, .inl (E.2 1, 200, .inl f)), (gk, .inr (4, [.ref a2, .int (nI L.length), .int cn, .int lt])), (a2, .inl (E.2 1, 120, .inl (nA M)))] sz) [(g0, .inr (8, [.ref gm, .ref gk, .ref gs, .ref ga, .ref gl, .ref gh, .ref gd, .int wA, .int wB, .int wU])), (gs, .inl (E.2 5, 4, .inr (.inr (.inr (.inr fs))))), (q1, .inr (7, [.ref a1, .int hd, .int ln, .int (nI n), .int (nI st)])), (a1, .inl (E.2 1, 200, .inl f)), (gk, .inr (4, [.ref a2, .int (nI L.length), .int cn, .int lt])), (a2, .inl (E.2 1, 120, .inl (nA M)))] t) (va_A [(g0, .inr (8, [.ref gm, .ref gk, .ref gs, .ref ga, .ref gl, .ref gh, .ref gd, .int wA, .int wB, .int wU])), (gs, .inl (E.2 5, 4, .inr (.inr (.inr (.inr fs))))), (q1, .inr (7, [.ref a1, .int hd, .int ln, .int (nI n), .int (nI st)])), (a1, .inl (E.2 1, 200, .inl f)), (gk, .inr (4, [.ref a2, .int (nI L.length), .int cn, .int lt])), (a2, .inl (E.2 1, 120, .inl (nA M)))] sz)) 0 0 (va_A [(g0, .inr (8, [.ref gm, .ref gk, .ref gs, .ref ga, .ref gl, .ref gh, .ref gd, .int wA, .int wB, .int wU])), (gs, .inl (E.2 5, 4, .inr (.inr (.inr (.inr fs))))), (q1, .inr (7, [.ref a1, .int hd, .int ln, .int (nI n), .int (nI st)])), (a1, .inl (E.2 1, 200, .inl f)), (gk, .inr (4, [.ref a2, .int (nI L.length), .int cn, .int lt])), (a2, .inl (E.2 1, 120, .inl (nA M)))] sz) := by
  refine Met.ofW (cc := cX8_cut) (maxL := 5) (ret := (some .int)) (by decide +kernel) rfl ?_
  intro p e s m args below meth c s₁ B hml hv
  obtain ⟨rfl, hsz, hP, hE, hD0⟩ := hv
  have hx := B.exec
  have hb := B.bytes
  have hr := B.returns
  have hts := atoms_spec (ws := wsX8_cut) B.pre
  have hown : s.vm.findClass RX8 = some m.cls := findClass_of_methodNamed B.named
  have hlocks := B.notSynchronized
  have hK := hE.1
  have hNN := hE.2.1
  have hinX8 : ∀ w ∈ wsX80, w ∈ wsX8_cut := fun w h => List.mem_cons_of_mem _ (List.mem_append_left _ (List.mem_append_left _ (List.mem_append_left _ (List.mem_append_right _ h))))
  have hinX7 : ∀ w ∈ wsX70, w ∈ wsX8_cut := fun w h => List.mem_cons_of_mem _ (List.mem_append_left _ (List.mem_append_left _ (List.mem_append_right _ h)))
  subst hsz
  have hD := hD0.self (sz := s.heap.size)
  generalize hAe : va_A [(g0, .inr (8, [.ref gm, .ref gk, .ref gs, .ref ga, .ref gl, .ref gh, .ref gd, .int wA, .int wB, .int wU])), (gs, .inl (E.2 5, 4, .inr (.inr (.inr (.inr fs))))), (q1, .inr (7, [.ref a1, .int hd, .int ln, .int (nI n), .int (nI st)])), (a1, .inl (E.2 1, 200, .inl f)), (gk, .inr (4, [.ref a2, .int (nI L.length), .int cn, .int lt])), (a2, .inl (E.2 1, 120, .inl (nA M)))] s.heap.size = A at hD ⊢
  have hA : ∀ q : Nat, s.heap.size ≤ q → A q := fun q h => by rw [← hAe]; exact Or.inr h
  have hS : va_S A s.heap s.heap [] := va_S.rf
  have hl := lv_entry ([.ref g0, .int (nI kk), .int (nI tt), .int (nI cc)]) (n := 5) (Nat.le_of_ble_eq_true rfl)
  rw [lg_entry_eq]
  generalize (lg_sl ([.ref g0, .int (nI kk), .int (nI tt), .int (nI cc)]) ++ List.replicate (5 - (lg_sl ([.ref g0, .int (nI kk), .int (nI tt), .int (nI cc)])).length) Slot.unset).toArray = ls at hl ⊢
  have hl : lv_has ls 5 [(0, .ref g0), (1, .int (nI kk)), (2, .int (nI tt)), (3, .int (nI cc))] := hl
  refine lv_iload_n hx hb dX8_cut_0 rfl (lv_at hl 1 rfl) ?_
  refine lv_iconst (v := 0) hx hb dX8_cut_1 (by decide) ?_
  refine lv_iconst (v := 3) hx hb dX8_cut_2 (by decide) ?_
  refine rSi hE ⟨hx, hb, hml, hown, hts⟩ (c_X8_within l E (nI kk) 0 3 ) (va_cwS 3 hts gX8_cut_X8_within rfl rfl rfl (by decide +kernel) ⟨Nat.le_of_ble_eq_true rfl, Nat.le_of_ble_eq_true rfl⟩) (hP.sub [] rfl) rfl hl.1 rfl (Nat.le_of_ble_eq_true rfl) dX8_cut_3 ⟨(Nat.zero_le _), (Nat.zero_le _)⟩ ?_
  refine lv_if_eq (tgt := 23) hx hb dX8_cut_6 (by decide) (fun c_6 => by exfalso; have c_6 := fWi_0 c_6; exact c_6 ⟨nI_pos' (by omega), nI_le (b := 3) (by omega) (by omega)⟩) (fun c_6 => ?_)
  have c_6 := fWi_1 c_6
  refine lv_iload_n hx hb dX8_cut_9 rfl (lv_at hl 2 rfl) ?_
  refine lv_if_lt (tgt := 23) hx hb dX8_cut_10 (by decide) (fun c_10 => by exfalso; have c_10 : tt < 0 := (nI_ltI (a := tt) (b := 0) (by omega) (by omega)).mp c_10; omega) (fun c_10 => ?_)
  have c_10 : ¬ tt < 0 := fun h9 => c_10 ((nI_ltI (a := tt) (b := 0) (by omega) (by omega)).mpr h9)
  refine lv_iload_n hx hb dX8_cut_13 rfl (lv_at hl 3 rfl) ?_
  refine lv_iconst (v := 1) hx hb dX8_cut_14 (by decide) ?_
  refine lv_bipush (v := 40) hx hb dX8_cut_15 (by decide) ?_
  refine rSi hE ⟨hx, hb, hml, hown, hts⟩ (c_X8_within l E (nI cc) 1 40 ) (va_cwS 3 hts gX8_cut_X8_within rfl rfl rfl (by decide +kernel) ⟨Nat.le_of_ble_eq_true rfl, Nat.le_of_ble_eq_true rfl⟩) (hP.sub [] rfl) rfl hl.1 rfl (Nat.le_of_ble_eq_true rfl) dX8_cut_17 ⟨(Nat.zero_le _), (Nat.zero_le _)⟩ ?_
  refine lv_if_ne (tgt := 25) hx hb dX8_cut_20 (by decide) (fun c_20 => ?_) (fun c_20 => by exfalso; have c_20 := fWi_0 c_20; exact c_20 ⟨nI_le (a := 1) (by omega) (by omega), nI_le (b := 40) (by omega) (by omega)⟩)
  have c_20 := fWi_1 c_20
  refine lv_aload_n hx hb dX8_cut_25 rfl (lv_at hl 0 rfl) ?_
  refine va_get (D := E.1) (ci := 8) (v := .ref gs) (C := RX8) (T := TX8) (N := 10) hx hb hts hinX8 hown hK hP 0 rfl rfl 2 (by decide) (hts (.fieldLink RX8 25 "WornRings" "sheets" "[LWornRings$Sheet;") (by decide +kernel)) (fun _ h9 => h9) rfl dX8_cut_26 ?_
  refine lv_iload_n hx hb dX8_cut_29 rfl (lv_at hl 1 rfl) ?_
  refine va_aldq hx hb hK hP 1 5 rfl rfl (vp_in_nI (by omega) (by omega)) dX8_cut_30 ?_
  rw [nI_clamp (n := kk) (by omega)]
  rw [hq]
  refine W.eq (g2 := F0 m 31 ls [.ref q1]) rfl ?_
  refine lv_astore (lv' := [(4, .ref q1), (0, .ref g0), (1, .int (nI kk)), (2, .int (nI tt)), (3, .int (nI cc))]) hx hb dX8_cut_31 hl (by decide) rfl (fun ls hl => ?_)
  refine lv_aload hx hb dX8_cut_33 (lv_at hl 0 rfl) ?_
  refine va_getN (D := E.1) (host := "WornRings") (ref := "WornRings$Sheet") (ci := 7) (v := .int hd) (C := RX7) (T := TX7) (N := 5) hx hb hts hinX7 hown hK hP 2 rfl rfl 1 (by decide) (va_Nw.use rfl (hNN (.fieldLinkNest RX8 140 "WornRings$Sheet" "held" "Z" "WornRings") (by decide +kernel))) (fun _ h9 => h9) rfl dX8_cut_35 ?_
  refine lv_if_ne (tgt := 44) hx hb dX8_cut_38 (by decide) (fun c_38 => ?_) (fun c_38 => ?_)
  · refine lv_aload_n hx hb dX8_cut_44 rfl (lv_at hl 1 rfl) ?_
    refine va_get (D := E.1) (ci := 8) (v := .ref gk) (C := RX8) (T := TX8) (N := 10) hx hb hts hinX8 hown hK hP 0 rfl rfl 1 (by decide) (hts (.fieldLink RX8 19 "WornRings" "marks" "LWornRings$Marks;") (by decide +kernel)) (fun _ h9 => h9) rfl dX8_cut_45 ?_
    refine lv_iload_n hx hb dX8_cut_48 rfl (lv_at hl 3 rfl) ?_
    refine lv_iload_n hx hb dX8_cut_49 rfl (lv_at hl 4 rfl) ?_
    refine rVi hE ⟨hx, hb, hml, hown, hts⟩ (c_X4_hasTurns l E gk a2 L cn lt M tt cc (hL) (htt) (by omega)) (cwV 2 hts gX8_cut_X4_hasTurns rfl rfl rfl (by decide +kernel) ⟨Nat.le_of_ble_eq_true rfl, Nat.le_of_ble_eq_true rfl⟩) (hP.sub [4, 5] rfl) 0 4 rfl rfl rfl hl.1 rfl (Nat.le_of_ble_eq_true rfl) dX8_cut_50 ⟨(Nat.zero_le _), (Nat.zero_le _)⟩ ?_
    refine lv_if_eq (tgt := 76) hx hb dX8_cut_53 (by decide) (fun c_53 => ?_) (fun c_53 => ?_)
    · have c_53 := fHT_0 c_53
      refine lv_bipush (v := (-2)) hx hb dX8_cut_76 (by decide) ?_
      have hP9 : va_P E.1 vwCl [(g0, .inr (8, [.ref gm, .ref gk, .ref gs, .ref ga, .ref gl, .ref gh, .ref gd, .int wA, .int wB, .int wU])), (gs, .inl (E.2 5, 4, .inr (.inr (.inr (.inr fs))))), (q1, .inr (7, [.ref a1, .int hd, .int ln, .int (nI n), .int (nI st)])), (a1, .inl (E.2 1, 200, .inl f)), (gk, .inr (4, [.ref a2, .int (nI L.length), .int cn, .int lt])), (a2, .inl (E.2 1, 120, .inl (nA M)))] s.heap := hP.sub [0, 1, 2, 3, 4, 5] rfl
      have hD9 : va_D A [(g0, .inr (8, [.ref gm, .ref gk, .ref gs, .ref ga, .ref gl, .ref gh, .ref gd, .int wA, .int wB, .int wU])), (gs, .inl (E.2 5, 4, .inr (.inr (.inr (.inr fs))))), (q1, .inr (7, [.ref a1, .int hd, .int ln, .int (nI n), .int (nI st)])), (a1, .inl (E.2 1, 200, .inl f)), (gk, .inr (4, [.ref a2, .int (nI L.length), .int cn, .int lt])), (a2, .inl (E.2 1, 120, .inl (nA M)))] := hD.sub [0, 1, 2, 3, 4, 5] (by decide) rfl
      exact W.iret (v := (-2)) hx hb hr (fun t9 ht9 hW9 => ⟨⟨(-2), (), rfl, (if_neg c_38).symm, ⟨by rw [ht9]; exact hP9, hD9⟩⟩, hS.F ht9⟩) hS.2.2 dX8_cut_78
    · have c_53 := fHT_1 c_53
      refine lv_aload_n hx hb dX8_cut_56 rfl (lv_at hl 1 rfl) ?_
      refine va_get (D := E.1) (ci := 8) (v := .ref gk) (C := RX8) (T := TX8) (N := 10) hx hb hts hinX8 hown hK hP 0 rfl rfl 1 (by decide) (hts (.fieldLink RX8 19 "WornRings" "marks" "LWornRings$Marks;") (by decide +kernel)) (fun _ h9 => h9) rfl dX8_cut_57 ?_
      refine lv_iload_n hx hb dX8_cut_60 rfl (lv_at hl 3 rfl) ?_
      refine lv_iload_n hx hb dX8_cut_61 rfl (lv_at hl 4 rfl) ?_
      refine lv_iadd hx hb dX8_cut_62 ?_
      rw [show ((nI tt) + (nI cc) : Int32) = nI (tt + cc) from nI_add tt cc]
      refine lv_iconst (v := 1) hx hb dX8_cut_63 (by decide) ?_
      refine lv_isub hx hb dX8_cut_64 ?_
      rw [show ((nI (tt + cc)) - (1 : Int32) : Int32) = nI ((tt + cc) - 1) from pk_sub (a := (tt + cc)) (b := 1) (by omega)]
      refine rVi hE ⟨hx, hb, hml, hown, hts⟩ (c_X4_endOf l E gk a2 L cn lt M ((tt + cc) - 1) (hL) (by omega)) (cwV 1 hts gX8_cut_X4_endOf rfl rfl rfl (by decide +kernel) ⟨Nat.le_of_ble_eq_true rfl, Nat.le_of_ble_eq_true rfl⟩) (hP.sub [4, 5] rfl) 0 4 rfl rfl rfl hl.1 rfl (Nat.le_of_ble_eq_true rfl) dX8_cut_65 ⟨(Nat.zero_le _), (Nat.zero_le _)⟩ ?_
      refine lv_aload hx hb dX8_cut_68 (lv_at hl 0 rfl) ?_
      refine rVi hE ⟨hx, hb, hml, hown, hts⟩ (c_X7_lastHeard l E q1 a1 hd ln n st f ) (cwV 0 hts gX8_cut_X7_lastHeard rfl rfl rfl (by decide +kernel) ⟨Nat.le_of_ble_eq_true rfl, Nat.le_of_ble_eq_true rfl⟩) (hP.sub [2, 3] rfl) 0 7 rfl rfl rfl hl.1 rfl (Nat.le_of_ble_eq_true rfl) dX8_cut_70 ⟨(Nat.zero_le _), (Nat.zero_le _)⟩ ?_
      refine lv_icmp_le (tgt := 79) hx hb dX8_cut_73 (by decide) (fun c_73 => by exfalso; exact hno.elim c_38 (fun h9 => h9 ⟨c_53.2, (le_lh (by have h8 := hbd (tt + cc - 1 + 1) (by omega); omega) hn hs1 hs2).mp c_73⟩)) (fun c_73 => ?_)
      refine lv_bipush (v := (-2)) hx hb dX8_cut_76 (by decide) ?_
      have hP9 : va_P E.1 vwCl [(g0, .inr (8, [.ref gm, .ref gk, .ref gs, .ref ga, .ref gl, .ref gh, .ref gd, .int wA, .int wB, .int wU])), (gs, .inl (E.2 5, 4, .inr (.inr (.inr (.inr fs))))), (q1, .inr (7, [.ref a1, .int hd, .int ln, .int (nI n), .int (nI st)])), (a1, .inl (E.2 1, 200, .inl f)), (gk, .inr (4, [.ref a2, .int (nI L.length), .int cn, .int lt])), (a2, .inl (E.2 1, 120, .inl (nA M)))] s.heap := hP.sub [0, 1, 2, 3, 4, 5] rfl
      have hD9 : va_D A [(g0, .inr (8, [.ref gm, .ref gk, .ref gs, .ref ga, .ref gl, .ref gh, .ref gd, .int wA, .int wB, .int wU])), (gs, .inl (E.2 5, 4, .inr (.inr (.inr (.inr fs))))), (q1, .inr (7, [.ref a1, .int hd, .int ln, .int (nI n), .int (nI st)])), (a1, .inl (E.2 1, 200, .inl f)), (gk, .inr (4, [.ref a2, .int (nI L.length), .int cn, .int lt])), (a2, .inl (E.2 1, 120, .inl (nA M)))] := hD.sub [0, 1, 2, 3, 4, 5] (by decide) rfl
      exact W.iret (v := (-2)) hx hb hr (fun t9 ht9 hW9 => ⟨⟨(-2), (), rfl, (if_neg c_38).symm, ⟨by rw [ht9]; exact hP9, hD9⟩⟩, hS.F ht9⟩) hS.2.2 dX8_cut_78
  · refine lv_bipush (v := (-11)) hx hb dX8_cut_41 (by decide) ?_
    have hP9 : va_P E.1 vwCl [(g0, .inr (8, [.ref gm, .ref gk, .ref gs, .ref ga, .ref gl, .ref gh, .ref gd, .int wA, .int wB, .int wU])), (gs, .inl (E.2 5, 4, .inr (.inr (.inr (.inr fs))))), (q1, .inr (7, [.ref a1, .int hd, .int ln, .int (nI n), .int (nI st)])), (a1, .inl (E.2 1, 200, .inl f)), (gk, .inr (4, [.ref a2, .int (nI L.length), .int cn, .int lt])), (a2, .inl (E.2 1, 120, .inl (nA M)))] s.heap := hP.sub [0, 1, 2, 3, 4, 5] rfl
    have hD9 : va_D A [(g0, .inr (8, [.ref gm, .ref gk, .ref gs, .ref ga, .ref gl, .ref gh, .ref gd, .int wA, .int wB, .int wU])), (gs, .inl (E.2 5, 4, .inr (.inr (.inr (.inr fs))))), (q1, .inr (7, [.ref a1, .int hd, .int ln, .int (nI n), .int (nI st)])), (a1, .inl (E.2 1, 200, .inl f)), (gk, .inr (4, [.ref a2, .int (nI L.length), .int cn, .int lt])), (a2, .inl (E.2 1, 120, .inl (nA M)))] := hD.sub [0, 1, 2, 3, 4, 5] (by decide) rfl
    exact W.iret (v := (-11)) hx hb hr (fun t9 ht9 hW9 => ⟨⟨(-11), (), rfl, (if_pos c_38).symm, ⟨by rw [ht9]; exact hP9, hD9⟩⟩, hS.F ht9⟩) hS.2.2 dX8_cut_43
set_option maxHeartbeats 1000000 in
set_option maxRecDepth 100000 in
theorem c_X8_cut_yes (l : Launch) (E : EnvT) (sz : Nat) (g0 : Nat) (gm : Nat) (gk : Nat) (gs : Nat) (ga : Nat) (gl : Nat) (gh : Nat) (gd : Nat) (wA : Int32) (wB : Int32) (wU : Int32) (fs : Nat → Option Nat) (q1 : Nat) (a1 : Nat) (hd : Int32) (ln : Int32) (n : Nat) (st : Nat) (f : Nat → Int32) (a2 : Nat) (L : List Nat) (cn : Int32) (lt : Int32) (M : Nat → Nat) (av : Nat) (told : Int32) (gg : Nat → Int32) (kk : Nat) (tt : Nat) (cc : Nat) (hk : kk < 4) (hq : fs kk = some q1) (htt : tt < 2 ^ 31) (hc1 : 1 ≤ cc) (hc2 : cc ≤ 40) (hL : L.length ≤ 120) (hic : ∀ j, j + 1 < L.length → M j < M (j + 1)) (hbd : ∀ j, j < L.length → M j ≤ 1000000) (hn : n ≤ 200) (hs1 : 1 ≤ st) (hs2 : st ≤ 1000) (hhd : ¬ hd = 0) (hyes : tt + cc + 1 ≤ L.length ∧ 1 ≤ n ∧ M (tt + cc - 1 + 1) ≤ (n - 1) * st) (hT : ∀ b j, tt ≤ b → b < tt + cc → j < 32 → tmF M b j ≤ (n - 1) * st) : Met l yX8_cut wsX8_cut ({ frames := 3, cells := 0, slots := 0, locals := 72 }) (va_Pc [.ref g0, .int (nI kk), .int (nI tt), .int (nI cc)] (PW E [(g0, .inr (8, [.ref gm, .ref gk, .ref gs, .ref ga, .ref gl, .ref gh, .ref gd, .int wA, .int wB, .int wU])), (gs, .inl (E.2 5, 4, .inr (.inr (.inr (.inr fs))))), (q1, .inr (7, [.ref a1, .int hd, .int ln, .int (nI n), .int (nI st)])), (a1, .inl (E.2 1, 200, .inl f)), (gk, .inr (4, [.ref a2, .int (nI L.length), .int cn, .int lt])), (a2, .inl (E.2 1, 120, .inl (nA M))), (ga, .inr (5, [.ref av, .int told])), (av, .inl (E.2 1, 32, .inl gg))] sz)) (va_Qi (fun (r : Int32) (uu : Unit) => r = nI cc) (fun (uu : Unit) t => BW E (va_A [(g0, .inr (8, [.ref gm, .ref gk, .ref gs, .ref ga, .ref gl, .ref gh, .ref gd, .int wA, .int wB, .int wU])), (gs, .inl (E.2 5, 4, .inr (.inr (.inr (.inr fs))))), (q1, .inr (7, [.ref a1, .int hd, .int ln, .int (nI n), .int (nI st)])), (a1, .inl (E.2 1, 200, .inl f)), (gk, .inr (4, [.ref a2, .int (nI L.length), .int cn, .int lt])), (a2, .inl (E.2 1, 120, .inl (nA M))), (ga, .inr (5, [.ref av, .int told])), (av, .inl (E.2 1, 32, .inl gg))] sz) [(g0, .inr (8, [.ref gm, .ref gk, .ref gs, .ref ga, .ref gl, .ref gh, .ref gd, .int wA, .int wB, .int wU])), (gs, .inl (E.2 5, 4, .inr (.inr (.inr (.inr fs))))), (q1, .inr (7, [.ref a1, .int hd, .int ln, .int (nI n), .int (nI st)])), (a1, .inl (E.2 1, 200, .inl f)), (gk, .inr (4, [.ref a2, .int (nI L.length), .int cn, .int lt])), (a2, .inl (E.2 1, 120, .inl (nA M))), (ga, .inr (5, [.ref av, .int 1])), (av, .inl (E.2 1, 32, .inl (flF (meanF f st M tt cc) 32 gg)))] t) (va_A [(g0, .inr (8, [.ref gm, .ref gk, .ref gs, .ref ga, .ref gl, .ref gh, .ref gd, .int wA, .int wB, .int wU])), (gs, .inl (E.2 5, 4, .inr (.inr (.inr (.inr fs))))), (q1, .inr (7, [.ref a1, .int hd, .int ln, .int (nI n), .int (nI st)])), (a1, .inl (E.2 1, 200, .inl f)), (gk, .inr (4, [.ref a2, .int (nI L.length), .int cn, .int lt])), (a2, .inl (E.2 1, 120, .inl (nA M))), (ga, .inr (5, [.ref av, .int told])), (av, .inl (E.2 1, 32, .inl gg))] sz)) 0 0 (va_A [(g0, .inr (8, [.ref gm, .ref gk, .ref gs, .ref ga, .ref gl, .ref gh, .ref gd, .int wA, .int wB, .int wU])), (gs, .inl (E.2 5, 4, .inr (.inr (.inr (.inr fs))))), (q1, .inr (7, [.ref a1, .int hd, .int ln, .int (nI n), .int (nI st)])), (a1, .inl (E.2 1, 200, .inl f)), (gk, .inr (4, [.ref a2, .int (nI L.length), .int cn, .int lt])), (a2, .inl (E.2 1, 120, .inl (nA M))), (ga, .inr (5, [.ref av, .int told])), (av, .inl (E.2 1, 32, .inl gg))] sz) := by
  refine Met.ofW (cc := cX8_cut) (maxL := 5) (ret := (some .int)) (by decide +kernel) rfl ?_
  intro p e s m args below meth c s₁ B hml hv
  obtain ⟨rfl, hsz, hP, hE, hD0⟩ := hv
  have hx := B.exec
  have hb := B.bytes
  have hr := B.returns
  have hts := atoms_spec (ws := wsX8_cut) B.pre
  have hown : s.vm.findClass RX8 = some m.cls := findClass_of_methodNamed B.named
  have hlocks := B.notSynchronized
  have hK := hE.1
  have hNN := hE.2.1
  have hinX8 : ∀ w ∈ wsX80, w ∈ wsX8_cut := fun w h => List.mem_cons_of_mem _ (List.mem_append_left _ (List.mem_append_left _ (List.mem_append_left _ (List.mem_append_right _ h))))
  have hinX7 : ∀ w ∈ wsX70, w ∈ wsX8_cut := fun w h => List.mem_cons_of_mem _ (List.mem_append_left _ (List.mem_append_left _ (List.mem_append_right _ h)))
  subst hsz
  have hD := hD0.self (sz := s.heap.size)
  generalize hAe : va_A [(g0, .inr (8, [.ref gm, .ref gk, .ref gs, .ref ga, .ref gl, .ref gh, .ref gd, .int wA, .int wB, .int wU])), (gs, .inl (E.2 5, 4, .inr (.inr (.inr (.inr fs))))), (q1, .inr (7, [.ref a1, .int hd, .int ln, .int (nI n), .int (nI st)])), (a1, .inl (E.2 1, 200, .inl f)), (gk, .inr (4, [.ref a2, .int (nI L.length), .int cn, .int lt])), (a2, .inl (E.2 1, 120, .inl (nA M))), (ga, .inr (5, [.ref av, .int told])), (av, .inl (E.2 1, 32, .inl gg))] s.heap.size = A at hD ⊢
  have hA : ∀ q : Nat, s.heap.size ≤ q → A q := fun q h => by rw [← hAe]; exact Or.inr h
  have hS : va_S A s.heap s.heap [] := va_S.rf
  have hl := lv_entry ([.ref g0, .int (nI kk), .int (nI tt), .int (nI cc)]) (n := 5) (Nat.le_of_ble_eq_true rfl)
  rw [lg_entry_eq]
  generalize (lg_sl ([.ref g0, .int (nI kk), .int (nI tt), .int (nI cc)]) ++ List.replicate (5 - (lg_sl ([.ref g0, .int (nI kk), .int (nI tt), .int (nI cc)])).length) Slot.unset).toArray = ls at hl ⊢
  have hl : lv_has ls 5 [(0, .ref g0), (1, .int (nI kk)), (2, .int (nI tt)), (3, .int (nI cc))] := hl
  refine lv_iload_n hx hb dX8_cut_0 rfl (lv_at hl 1 rfl) ?_
  refine lv_iconst (v := 0) hx hb dX8_cut_1 (by decide) ?_
  refine lv_iconst (v := 3) hx hb dX8_cut_2 (by decide) ?_
  refine rSi hE ⟨hx, hb, hml, hown, hts⟩ (c_X8_within l E (nI kk) 0 3 ) (va_cwS 3 hts gX8_cut_X8_within rfl rfl rfl (by decide +kernel) ⟨Nat.le_of_ble_eq_true rfl, Nat.le_of_ble_eq_true rfl⟩) (hP.sub [] rfl) rfl hl.1 rfl (Nat.le_of_ble_eq_true rfl) dX8_cut_3 ⟨(Nat.zero_le _), (Nat.zero_le _)⟩ ?_
  refine lv_if_eq (tgt := 23) hx hb dX8_cut_6 (by decide) (fun c_6 => by exfalso; have c_6 := fWi_0 c_6; exact c_6 ⟨nI_pos' (by omega), nI_le (b := 3) (by omega) (by omega)⟩) (fun c_6 => ?_)
  have c_6 := fWi_1 c_6
  refine lv_iload_n hx hb dX8_cut_9 rfl (lv_at hl 2 rfl) ?_
  refine lv_if_lt (tgt := 23) hx hb dX8_cut_10 (by decide) (fun c_10 => by exfalso; have c_10 : tt < 0 := (nI_ltI (a := tt) (b := 0) (by omega) (by omega)).mp c_10; omega) (fun c_10 => ?_)
  have c_10 : ¬ tt < 0 := fun h9 => c_10 ((nI_ltI (a := tt) (b := 0) (by omega) (by omega)).mpr h9)
  refine lv_iload_n hx hb dX8_cut_13 rfl (lv_at hl 3 rfl) ?_
  refine lv_iconst (v := 1) hx hb dX8_cut_14 (by decide) ?_
  refine lv_bipush (v := 40) hx hb dX8_cut_15 (by decide) ?_
  refine rSi hE ⟨hx, hb, hml, hown, hts⟩ (c_X8_within l E (nI cc) 1 40 ) (va_cwS 3 hts gX8_cut_X8_within rfl rfl rfl (by decide +kernel) ⟨Nat.le_of_ble_eq_true rfl, Nat.le_of_ble_eq_true rfl⟩) (hP.sub [] rfl) rfl hl.1 rfl (Nat.le_of_ble_eq_true rfl) dX8_cut_17 ⟨(Nat.zero_le _), (Nat.zero_le _)⟩ ?_
  refine lv_if_ne (tgt := 25) hx hb dX8_cut_20 (by decide) (fun c_20 => ?_) (fun c_20 => by exfalso; have c_20 := fWi_0 c_20; exact c_20 ⟨nI_le (a := 1) (by omega) (by omega), nI_le (b := 40) (by omega) (by omega)⟩)
  have c_20 := fWi_1 c_20
  refine lv_aload_n hx hb dX8_cut_25 rfl (lv_at hl 0 rfl) ?_
  refine va_get (D := E.1) (ci := 8) (v := .ref gs) (C := RX8) (T := TX8) (N := 10) hx hb hts hinX8 hown hK hP 0 rfl rfl 2 (by decide) (hts (.fieldLink RX8 25 "WornRings" "sheets" "[LWornRings$Sheet;") (by decide +kernel)) (fun _ h9 => h9) rfl dX8_cut_26 ?_
  refine lv_iload_n hx hb dX8_cut_29 rfl (lv_at hl 1 rfl) ?_
  refine va_aldq hx hb hK hP 1 5 rfl rfl (vp_in_nI (by omega) (by omega)) dX8_cut_30 ?_
  rw [nI_clamp (n := kk) (by omega)]
  rw [hq]
  refine W.eq (g2 := F0 m 31 ls [.ref q1]) rfl ?_
  refine lv_astore (lv' := [(4, .ref q1), (0, .ref g0), (1, .int (nI kk)), (2, .int (nI tt)), (3, .int (nI cc))]) hx hb dX8_cut_31 hl (by decide) rfl (fun ls hl => ?_)
  refine lv_aload hx hb dX8_cut_33 (lv_at hl 0 rfl) ?_
  refine va_getN (D := E.1) (host := "WornRings") (ref := "WornRings$Sheet") (ci := 7) (v := .int hd) (C := RX7) (T := TX7) (N := 5) hx hb hts hinX7 hown hK hP 2 rfl rfl 1 (by decide) (va_Nw.use rfl (hNN (.fieldLinkNest RX8 140 "WornRings$Sheet" "held" "Z" "WornRings") (by decide +kernel))) (fun _ h9 => h9) rfl dX8_cut_35 ?_
  refine lv_if_ne (tgt := 44) hx hb dX8_cut_38 (by decide) (fun c_38 => ?_) (fun c_38 => by exfalso; exact hhd c_38)
  refine lv_aload_n hx hb dX8_cut_44 rfl (lv_at hl 1 rfl) ?_
  refine va_get (D := E.1) (ci := 8) (v := .ref gk) (C := RX8) (T := TX8) (N := 10) hx hb hts hinX8 hown hK hP 0 rfl rfl 1 (by decide) (hts (.fieldLink RX8 19 "WornRings" "marks" "LWornRings$Marks;") (by decide +kernel)) (fun _ h9 => h9) rfl dX8_cut_45 ?_
  refine lv_iload_n hx hb dX8_cut_48 rfl (lv_at hl 3 rfl) ?_
  refine lv_iload_n hx hb dX8_cut_49 rfl (lv_at hl 4 rfl) ?_
  refine rVi hE ⟨hx, hb, hml, hown, hts⟩ (c_X4_hasTurns l E gk a2 L cn lt M tt cc (hL) (htt) (by omega)) (cwV 2 hts gX8_cut_X4_hasTurns rfl rfl rfl (by decide +kernel) ⟨Nat.le_of_ble_eq_true rfl, Nat.le_of_ble_eq_true rfl⟩) (hP.sub [4, 5] rfl) 0 4 rfl rfl rfl hl.1 rfl (Nat.le_of_ble_eq_true rfl) dX8_cut_50 ⟨(Nat.zero_le _), (Nat.zero_le _)⟩ ?_
  refine lv_if_eq (tgt := 76) hx hb dX8_cut_53 (by decide) (fun c_53 => by exfalso; have c_53 := fHT_0 c_53; omega) (fun c_53 => ?_)
  have c_53 := fHT_1 c_53
  refine lv_aload_n hx hb dX8_cut_56 rfl (lv_at hl 1 rfl) ?_
  refine va_get (D := E.1) (ci := 8) (v := .ref gk) (C := RX8) (T := TX8) (N := 10) hx hb hts hinX8 hown hK hP 0 rfl rfl 1 (by decide) (hts (.fieldLink RX8 19 "WornRings" "marks" "LWornRings$Marks;") (by decide +kernel)) (fun _ h9 => h9) rfl dX8_cut_57 ?_
  refine lv_iload_n hx hb dX8_cut_60 rfl (lv_at hl 3 rfl) ?_
  refine lv_iload_n hx hb dX8_cut_61 rfl (lv_at hl 4 rfl) ?_
  refine lv_iadd hx hb dX8_cut_62 ?_
  rw [show ((nI tt) + (nI cc) : Int32) = nI (tt + cc) from nI_add tt cc]
  refine lv_iconst (v := 1) hx hb dX8_cut_63 (by decide) ?_
  refine lv_isub hx hb dX8_cut_64 ?_
  rw [show ((nI (tt + cc)) - (1 : Int32) : Int32) = nI ((tt + cc) - 1) from pk_sub (a := (tt + cc)) (b := 1) (by omega)]
  refine rVi hE ⟨hx, hb, hml, hown, hts⟩ (c_X4_endOf l E gk a2 L cn lt M ((tt + cc) - 1) (hL) (by omega)) (cwV 1 hts gX8_cut_X4_endOf rfl rfl rfl (by decide +kernel) ⟨Nat.le_of_ble_eq_true rfl, Nat.le_of_ble_eq_true rfl⟩) (hP.sub [4, 5] rfl) 0 4 rfl rfl rfl hl.1 rfl (Nat.le_of_ble_eq_true rfl) dX8_cut_65 ⟨(Nat.zero_le _), (Nat.zero_le _)⟩ ?_
  refine lv_aload hx hb dX8_cut_68 (lv_at hl 0 rfl) ?_
  refine rVi hE ⟨hx, hb, hml, hown, hts⟩ (c_X7_lastHeard l E q1 a1 hd ln n st f ) (cwV 0 hts gX8_cut_X7_lastHeard rfl rfl rfl (by decide +kernel) ⟨Nat.le_of_ble_eq_true rfl, Nat.le_of_ble_eq_true rfl⟩) (hP.sub [2, 3] rfl) 0 7 rfl rfl rfl hl.1 rfl (Nat.le_of_ble_eq_true rfl) dX8_cut_70 ⟨(Nat.zero_le _), (Nat.zero_le _)⟩ ?_
  refine lv_icmp_le (tgt := 79) hx hb dX8_cut_73 (by decide) (fun c_73 => ?_) (fun c_73 => by exfalso; exact c_73 ((le_lh (by have h8 := hbd (tt + cc - 1 + 1) (by omega); omega) hn hs1 hs2).mpr hyes.2))
  refine lv_aload_n hx hb dX8_cut_79 rfl (lv_at hl 1 rfl) ?_
  refine va_get (D := E.1) (ci := 8) (v := .ref ga) (C := RX8) (T := TX8) (N := 10) hx hb hts hinX8 hown hK hP 0 rfl rfl 3 (by decide) (hts (.fieldLink RX8 32 "WornRings" "average" "LWornRings$Mean;") (by decide +kernel)) (fun _ h9 => h9) rfl dX8_cut_80 ?_
  refine lv_aload hx hb dX8_cut_83 (lv_at hl 0 rfl) ?_
  refine lv_aload_n hx hb dX8_cut_85 rfl (lv_at hl 1 rfl) ?_
  refine va_get (D := E.1) (ci := 8) (v := .ref gk) (C := RX8) (T := TX8) (N := 10) hx hb hts hinX8 hown hK hP 0 rfl rfl 1 (by decide) (hts (.fieldLink RX8 19 "WornRings" "marks" "LWornRings$Marks;") (by decide +kernel)) (fun _ h9 => h9) rfl dX8_cut_86 ?_
  refine lv_iload_n hx hb dX8_cut_89 rfl (lv_at hl 3 rfl) ?_
  refine lv_iload_n hx hb dX8_cut_90 rfl (lv_at hl 4 rfl) ?_
  refine wVv (wr := [(g0, .inr (8, [.ref gm, .ref gk, .ref gs, .ref ga, .ref gl, .ref gh, .ref gd, .int wA, .int wB, .int wU])), (gs, .inl (E.2 5, 4, .inr (.inr (.inr (.inr fs)))))]) hE ⟨hx, hb, hml, hown, hts⟩ (c_X5_take l E s.heap.size ga av told gg q1 a1 hd ln n st f gk a2 L cn lt M tt cc (hc1) (hc2) (hL) (by omega) (hic) (hbd) (hyes.2.1) (hn) (hs1) (hs2) (hT)) (cwV 4 hts gX8_cut_X5_take rfl rfl rfl (by decide +kernel) ⟨Nat.le_of_ble_eq_true rfl, Nat.le_of_ble_eq_true rfl⟩) hP hD hS hA [6, 7, 2, 3, 4, 5] [0, 1] rfl rfl (by decide) (by decide) (by decide) 0 5 rfl rfl rfl hl.1 rfl (Nat.le_of_ble_eq_true rfl) dX8_cut_91 ⟨(Nat.zero_le _), (Nat.zero_le _)⟩ (fun u H locs hw hP hD hS => ?_)
  have hP : va_P E.1 vwCl [(g0, .inr (8, [.ref gm, .ref gk, .ref gs, .ref ga, .ref gl, .ref gh, .ref gd, .int wA, .int wB, .int wU])), (gs, .inl (E.2 5, 4, .inr (.inr (.inr (.inr fs))))), (ga, .inr (5, [.ref av, .int 1])), (av, .inl (E.2 1, 32, .inl (flF (meanF f st M tt cc) 32 gg))), (q1, .inr (7, [.ref a1, .int hd, .int ln, .int (nI n), .int (nI st)])), (a1, .inl (E.2 1, 200, .inl f)), (gk, .inr (4, [.ref a2, .int (nI L.length), .int cn, .int lt])), (a2, .inl (E.2 1, 120, .inl (nA M)))] H := hP
  have hD : va_D A [(g0, .inr (8, [.ref gm, .ref gk, .ref gs, .ref ga, .ref gl, .ref gh, .ref gd, .int wA, .int wB, .int wU])), (gs, .inl (E.2 5, 4, .inr (.inr (.inr (.inr fs))))), (ga, .inr (5, [.ref av, .int 1])), (av, .inl (E.2 1, 32, .inl (flF (meanF f st M tt cc) 32 gg))), (q1, .inr (7, [.ref a1, .int hd, .int ln, .int (nI n), .int (nI st)])), (a1, .inl (E.2 1, 200, .inl f)), (gk, .inr (4, [.ref a2, .int (nI L.length), .int cn, .int lt])), (a2, .inl (E.2 1, 120, .inl (nA M)))] := hD
  refine lv_iload_n hx hb dX8_cut_94 rfl (lv_at hl 4 rfl) ?_
  have hP9 : va_P E.1 vwCl [(g0, .inr (8, [.ref gm, .ref gk, .ref gs, .ref ga, .ref gl, .ref gh, .ref gd, .int wA, .int wB, .int wU])), (gs, .inl (E.2 5, 4, .inr (.inr (.inr (.inr fs))))), (q1, .inr (7, [.ref a1, .int hd, .int ln, .int (nI n), .int (nI st)])), (a1, .inl (E.2 1, 200, .inl f)), (gk, .inr (4, [.ref a2, .int (nI L.length), .int cn, .int lt])), (a2, .inl (E.2 1, 120, .inl (nA M))), (ga, .inr (5, [.ref av, .int 1])), (av, .inl (E.2 1, 32, .inl (flF (meanF f st M tt cc) 32 gg)))] H := hP.sub [0, 1, 4, 5, 6, 7, 2, 3] rfl
  have hD9 : va_D A [(g0, .inr (8, [.ref gm, .ref gk, .ref gs, .ref ga, .ref gl, .ref gh, .ref gd, .int wA, .int wB, .int wU])), (gs, .inl (E.2 5, 4, .inr (.inr (.inr (.inr fs))))), (q1, .inr (7, [.ref a1, .int hd, .int ln, .int (nI n), .int (nI st)])), (a1, .inl (E.2 1, 200, .inl f)), (gk, .inr (4, [.ref a2, .int (nI L.length), .int cn, .int lt])), (a2, .inl (E.2 1, 120, .inl (nA M))), (ga, .inr (5, [.ref av, .int 1])), (av, .inl (E.2 1, 32, .inl (flF (meanF f st M tt cc) 32 gg)))] := hD.sub [0, 1, 4, 5, 6, 7, 2, 3] (by decide) rfl
  exact W.iret (v := nI cc) hx hb hr (fun t9 ht9 hW9 => ⟨⟨nI cc, (), rfl, rfl, ⟨by rw [ht9]; exact hP9, hD9⟩⟩, hS.F ht9⟩) hS.2.2 dX8_cut_95
set_option maxHeartbeats 1000000 in
set_option maxRecDepth 100000 in
theorem c_X8_mean (l : Launch) (E : EnvT) (g0 : Nat) (gm : Nat) (gk : Nat) (gs : Nat) (ga : Nat) (gl : Nat) (gh : Nat) (gd : Nat) (wA : Int32) (wB : Int32) (wU : Int32) (av : Nat) (told : Int32) (gg : Nat → Int32) (jv : Int32)  : Met l yX8_mean wsX8_mean ({ frames := 1, cells := 0, slots := 0, locals := 22 }) (va_Pc [.ref g0, .int jv] (PR E [(g0, .inr (8, [.ref gm, .ref gk, .ref gs, .ref ga, .ref gl, .ref gh, .ref gd, .int wA, .int wB, .int wU])), (ga, .inr (5, [.ref av, .int told])), (av, .inl (E.2 1, 32, .inl gg))])) (vp_Si (fun r => r = if 0 ≤ jv ∧ jv ≤ 31 then (if told = 0 then -1000002 else gg jv.toNatClampNeg) else -1000001)) 0 0 (fun _ => False) := by
  refine Met.ofW (cc := cX8_mean) (maxL := 2) (ret := (some .int)) (by decide +kernel) rfl ?_
  intro p e s m args below meth c s₁ B hml hv
  obtain ⟨rfl, hP, hE⟩ := hv
  have hx := B.exec
  have hb := B.bytes
  have hr := B.returns
  have hts := atoms_spec (ws := wsX8_mean) B.pre
  have hown : s.vm.findClass RX8 = some m.cls := findClass_of_methodNamed B.named
  have hlocks := B.notSynchronized
  have hK := hE.1
  have hNN := hE.2.1
  have hinX8 : ∀ w ∈ wsX80, w ∈ wsX8_mean := fun w h => List.mem_cons_of_mem _ (List.mem_append_left _ (List.mem_append_right _ h))
  have hinX5 : ∀ w ∈ wsX50, w ∈ wsX8_mean := fun w h => List.mem_cons_of_mem _ (List.mem_append_right _ h)
  have hl := lv_entry ([.ref g0, .int jv]) (n := 2) (Nat.le_of_ble_eq_true rfl)
  rw [lg_entry_eq]
  generalize (lg_sl ([.ref g0, .int jv]) ++ List.replicate (2 - (lg_sl ([.ref g0, .int jv])).length) Slot.unset).toArray = ls at hl ⊢
  have hl : lv_has ls 2 [(0, .ref g0), (1, .int jv)] := hl
  refine lv_iload_n hx hb dX8_mean_0 rfl (lv_at hl 1 rfl) ?_
  refine lv_iconst (v := 0) hx hb dX8_mean_1 (by decide) ?_
  refine lv_bipush (v := 31) hx hb dX8_mean_2 (by decide) ?_
  refine rSi hE ⟨hx, hb, hml, hown, hts⟩ (c_X8_within l E jv 0 31 ) (va_cwS 3 hts gX8_mean_X8_within rfl rfl rfl (by decide +kernel) ⟨Nat.le_of_ble_eq_true rfl, Nat.le_of_ble_eq_true rfl⟩) (hP.sub [] rfl) rfl hl.1 rfl (Nat.le_of_ble_eq_true rfl) dX8_mean_4 ⟨(Nat.zero_le _), (Nat.zero_le _)⟩ ?_
  refine lv_if_ne (tgt := 13) hx hb dX8_mean_7 (by decide) (fun c_7 => ?_) (fun c_7 => ?_)
  · have c_7 := fWi_1 c_7
    obtain ⟨j, hj9, rfl⟩ : ∃ j : Nat, j ≤ 31 ∧ jv = nI j := nI_of2 (by decide) (Int32.not_lt.mpr c_7.1) c_7.2
    refine lv_aload_n hx hb dX8_mean_13 rfl (lv_at hl 0 rfl) ?_
    refine va_get (D := E.1) (ci := 8) (v := .ref ga) (C := RX8) (T := TX8) (N := 10) hx hb hts hinX8 hown hK hP 0 rfl rfl 3 (by decide) (hts (.fieldLink RX8 32 "WornRings" "average" "LWornRings$Mean;") (by decide +kernel)) (fun _ h9 => h9) rfl dX8_mean_14 ?_
    refine va_getN (D := E.1) (host := "WornRings") (ref := "WornRings$Mean") (ci := 5) (v := .int told) (C := RX5) (T := TX5) (N := 2) hx hb hts hinX5 hown hK hP 1 rfl rfl 1 (by decide) (va_Nw.use rfl (hNN (.fieldLinkNest RX8 169 "WornRings$Mean" "told" "Z" "WornRings") (by decide +kernel))) (fun _ h9 => h9) rfl dX8_mean_17 ?_
    refine lv_if_eq (tgt := 35) hx hb dX8_mean_20 (by decide) (fun c_20 => ?_) (fun c_20 => ?_)
    · refine lv_ldc (v := (-1000002)) hx hb hown (hts (.constant RX8 175 (-1000002)) (by decide +kernel)) dX8_mean_35 ?_
      exact W.iret (v := (-1000002)) hx hb hr (fun t9 ht9 hW9 => ⟨(-1000002), rfl, by first | rw [if_pos c_7, if_pos c_20] | rw [if_pos c_7, if_neg c_20], ht9⟩) (fun _ h => absurd h List.not_mem_nil) dX8_mean_37
    · refine lv_aload_n hx hb dX8_mean_23 rfl (lv_at hl 0 rfl) ?_
      refine va_get (D := E.1) (ci := 8) (v := .ref ga) (C := RX8) (T := TX8) (N := 10) hx hb hts hinX8 hown hK hP 0 rfl rfl 3 (by decide) (hts (.fieldLink RX8 32 "WornRings" "average" "LWornRings$Mean;") (by decide +kernel)) (fun _ h9 => h9) rfl dX8_mean_24 ?_
      refine va_getN (D := E.1) (host := "WornRings") (ref := "WornRings$Mean") (ci := 5) (v := .ref av) (C := RX5) (T := TX5) (N := 2) hx hb hts hinX5 hown hK hP 1 rfl rfl 0 (by decide) (va_Nw.use rfl (hNN (.fieldLinkNest RX8 172 "WornRings$Mean" "values" "[I" "WornRings") (by decide +kernel))) (fun _ h9 => h9) rfl dX8_mean_27 ?_
      refine lv_iload_n hx hb dX8_mean_30 rfl (lv_at hl 1 rfl) ?_
      refine va_iald hx hb hK hP 2 1 rfl rfl (vp_in_nI (by omega) (by omega)) dX8_mean_31 ?_
      rw [nI_clamp (n := j) (by omega)]
      refine lv_goto (tgt := 37) hx hb dX8_mean_32 (by decide) ?_
      exact W.iret (v := gg j) hx hb hr (fun t9 ht9 hW9 => ⟨gg j, rfl, by first | rw [if_pos c_7, if_pos c_20] | rw [if_pos c_7, if_neg c_20], ht9⟩) (fun _ h => absurd h List.not_mem_nil) dX8_mean_37
  · have c_7 := fWi_0 c_7
    refine lv_ldc (v := (-1000001)) hx hb hown (hts (.constant RX8 168 (-1000001)) (by decide +kernel)) dX8_mean_10 ?_
    exact W.iret (v := (-1000001)) hx hb hr (fun t9 ht9 hW9 => ⟨(-1000001), rfl, (if_neg c_7).symm, ht9⟩) (fun _ h => absurd h List.not_mem_nil) dX8_mean_12
