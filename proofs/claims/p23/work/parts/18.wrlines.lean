/-! WornRings: lines, heap, loads -/
def fHp (R : List Nat) (i : Int32) : Int32 := if i = -1 then nI R.length else if 0 ≤ i ∧ i ≤ nI R.length - 1 then nI (R.getD i.toNatClampNeg 0) else -1
def bz (x : Int32) : Nat := if x = 0 then 0 else 1

set_option maxHeartbeats 1000000 in
set_option maxRecDepth 100000 in
theorem c_X8_line_no (l : Launch) (E : EnvT) (sz : Nat) (g0 : Nat) (gm : Nat) (gk : Nat) (gs : Nat) (ga : Nat) (gl : Nat) (gh : Nat) (gd : Nat) (wA : Int32) (wB : Int32) (wU : Int32) (a1 : Nat) (a2 : Nat) (n : Nat) (th : Nat) (To : Nat → Int32) (Bo : Nat → Int32) (up : Int32) (dn : Int32) (hn : n ≤ 12) (hno : ¬ ((1 ≤ up ∧ up ≤ 10000) ∧ (1 ≤ dn ∧ dn ≤ 10000)) ∨ 12 ≤ n) : Met l yX8_line wsX8_line ({ frames := 2, cells := 0, slots := 0, locals := 44 }) (va_Pc [.ref g0, .int up, .int dn] (PW E [(g0, .inr (8, [.ref gm, .ref gk, .ref gs, .ref ga, .ref gl, .ref gh, .ref gd, .int wA, .int wB, .int wU])), (gl, .inr (1, [.ref a1, .ref a2, .int (nI n), .int (nI th)])), (a1, .inl (E.2 1, 12, .inl To)), (a2, .inl (E.2 1, 12, .inl Bo))] sz)) (va_Qi (fun (r : Int32) (uu : Unit) => r = if (1 ≤ up ∧ up ≤ 10000) ∧ (1 ≤ dn ∧ dn ≤ 10000) then -3 else -1) (fun (uu : Unit) t => BW E (va_A [(g0, .inr (8, [.ref gm, .ref gk, .ref gs, .ref ga, .ref gl, .ref gh, .ref gd, .int wA, .int wB, .int wU])), (gl, .inr (1, [.ref a1, .ref a2, .int (nI n), .int (nI th)])), (a1, .inl (E.2 1, 12, .inl To)), (a2, .inl (E.2 1, 12, .inl Bo))] sz) [(g0, .inr (8, [.ref gm, .ref gk, .ref gs, .ref ga, .ref gl, .ref gh, .ref gd, .int wA, .int wB, .int wU])), (gl, .inr (1, [.ref a1, .ref a2, .int (nI n), .int (nI th)])), (a1, .inl (E.2 1, 12, .inl To)), (a2, .inl (E.2 1, 12, .inl Bo))] t) (va_A [(g0, .inr (8, [.ref gm, .ref gk, .ref gs, .ref ga, .ref gl, .ref gh, .ref gd, .int wA, .int wB, .int wU])), (gl, .inr (1, [.ref a1, .ref a2, .int (nI n), .int (nI th)])), (a1, .inl (E.2 1, 12, .inl To)), (a2, .inl (E.2 1, 12, .inl Bo))] sz)) 0 0 (va_A [(g0, .inr (8, [.ref gm, .ref gk, .ref gs, .ref ga, .ref gl, .ref gh, .ref gd, .int wA, .int wB, .int wU])), (gl, .inr (1, [.ref a1, .ref a2, .int (nI n), .int (nI th)])), (a1, .inl (E.2 1, 12, .inl To)), (a2, .inl (E.2 1, 12, .inl Bo))] sz) := by
  refine Met.ofW (cc := cX8_line) (maxL := 4) (ret := (some .int)) (by decide +kernel) rfl ?_
  intro p e s m args below meth c s₁ B hml hv
  obtain ⟨rfl, hsz, hP, hE, hD0⟩ := hv
  have hx := B.exec
  have hb := B.bytes
  have hr := B.returns
  have hts := atoms_spec (ws := wsX8_line) B.pre
  have hown : s.vm.findClass RX8 = some m.cls := findClass_of_methodNamed B.named
  have hlocks := B.notSynchronized
  have hK := hE.1
  have hNN := hE.2.1
  have hinX8 : ∀ w ∈ wsX80, w ∈ wsX8_line := fun w h => List.mem_cons_of_mem _ (List.mem_append_left _ (List.mem_append_left _ (List.mem_append_right _ h)))
  subst hsz
  have hD := hD0.self (sz := s.heap.size)
  generalize hAe : va_A [(g0, .inr (8, [.ref gm, .ref gk, .ref gs, .ref ga, .ref gl, .ref gh, .ref gd, .int wA, .int wB, .int wU])), (gl, .inr (1, [.ref a1, .ref a2, .int (nI n), .int (nI th)])), (a1, .inl (E.2 1, 12, .inl To)), (a2, .inl (E.2 1, 12, .inl Bo))] s.heap.size = A at hD ⊢
  have hA : ∀ q : Nat, s.heap.size ≤ q → A q := fun q h => by rw [← hAe]; exact Or.inr h
  have hS : va_S A s.heap s.heap [] := va_S.rf
  have hl := lv_entry ([.ref g0, .int up, .int dn]) (n := 4) (Nat.le_of_ble_eq_true rfl)
  rw [lg_entry_eq]
  generalize (lg_sl ([.ref g0, .int up, .int dn]) ++ List.replicate (4 - (lg_sl ([.ref g0, .int up, .int dn])).length) Slot.unset).toArray = ls at hl ⊢
  have hl : lv_has ls 4 [(0, .ref g0), (1, .int up), (2, .int dn)] := hl
  refine lv_aload_n hx hb dX8_line_0 rfl (lv_at hl 0 rfl) ?_
  refine va_get (D := E.1) (ci := 8) (v := .ref gl) (C := RX8) (T := TX8) (N := 10) hx hb hts hinX8 hown hK hP 0 rfl rfl 4 (by decide) (hts (.fieldLink RX8 39 "WornRings" "lines" "LWornRings$Lines;") (by decide +kernel)) (fun _ h9 => h9) rfl dX8_line_1 ?_
  refine lv_iload_n hx hb dX8_line_4 rfl (lv_at hl 1 rfl) ?_
  refine lv_iload_n hx hb dX8_line_5 rfl (lv_at hl 2 rfl) ?_
  refine wVi (wr := [(g0, .inr (8, [.ref gm, .ref gk, .ref gs, .ref ga, .ref gl, .ref gh, .ref gd, .int wA, .int wB, .int wU]))]) hE ⟨hx, hb, hml, hown, hts⟩ (c_X1_add_no l E s.heap.size gl a1 a2 n th To Bo up dn (hn) (hno)) (cwV 2 hts gX8_line_X1_add rfl rfl rfl (by decide +kernel) ⟨Nat.le_of_ble_eq_true rfl, Nat.le_of_ble_eq_true rfl⟩) hP hD hS hA [1, 2, 3] [0] rfl rfl (by decide) (by decide) (by decide) 0 1 rfl rfl rfl hl.1 rfl (Nat.le_of_ble_eq_true rfl) dX8_line_6 ⟨(Nat.zero_le _), (Nat.zero_le _)⟩ (fun r_6 u H locs hw hP hD hS => ?_)
  have hP : va_P E.1 vwCl [(g0, .inr (8, [.ref gm, .ref gk, .ref gs, .ref ga, .ref gl, .ref gh, .ref gd, .int wA, .int wB, .int wU])), (gl, .inr (1, [.ref a1, .ref a2, .int (nI n), .int (nI th)])), (a1, .inl (E.2 1, 12, .inl To)), (a2, .inl (E.2 1, 12, .inl Bo))] H := hP
  have hD : va_D A [(g0, .inr (8, [.ref gm, .ref gk, .ref gs, .ref ga, .ref gl, .ref gh, .ref gd, .int wA, .int wB, .int wU])), (gl, .inr (1, [.ref a1, .ref a2, .int (nI n), .int (nI th)])), (a1, .inl (E.2 1, 12, .inl To)), (a2, .inl (E.2 1, 12, .inl Bo))] := hD
  rw [hw]
  refine lv_istore_n (lv' := [(3, .int (if (1 ≤ up ∧ up ≤ 10000) ∧ (1 ≤ dn ∧ dn ≤ 10000) then -3 else -1)), (0, .ref g0), (1, .int up), (2, .int dn)]) hx hb dX8_line_9 rfl hl (by decide) rfl (fun ls hl => ?_)
  refine lv_iload_n hx hb dX8_line_10 rfl (lv_at hl 0 rfl) ?_
  refine lv_if_lt (tgt := 21) hx hb dX8_line_11 (by decide) (fun c_11 => ?_) (fun c_11 => by exfalso; exact c_11 (by split <;> decide))
  refine lv_iload_n hx hb dX8_line_21 rfl (lv_at hl 0 rfl) ?_
  have hP9 : va_P E.1 vwCl [(g0, .inr (8, [.ref gm, .ref gk, .ref gs, .ref ga, .ref gl, .ref gh, .ref gd, .int wA, .int wB, .int wU])), (gl, .inr (1, [.ref a1, .ref a2, .int (nI n), .int (nI th)])), (a1, .inl (E.2 1, 12, .inl To)), (a2, .inl (E.2 1, 12, .inl Bo))] H := hP.sub [0, 1, 2, 3] rfl
  have hD9 : va_D A [(g0, .inr (8, [.ref gm, .ref gk, .ref gs, .ref ga, .ref gl, .ref gh, .ref gd, .int wA, .int wB, .int wU])), (gl, .inr (1, [.ref a1, .ref a2, .int (nI n), .int (nI th)])), (a1, .inl (E.2 1, 12, .inl To)), (a2, .inl (E.2 1, 12, .inl Bo))] := hD.sub [0, 1, 2, 3] (by decide) rfl
  exact W.iret (v := if (1 ≤ up ∧ up ≤ 10000) ∧ (1 ≤ dn ∧ dn ≤ 10000) then -3 else -1) hx hb hr (fun t9 ht9 hW9 => ⟨⟨if (1 ≤ up ∧ up ≤ 10000) ∧ (1 ≤ dn ∧ dn ≤ 10000) then -3 else -1, (), rfl, rfl, ⟨by rw [ht9]; exact hP9, hD9⟩⟩, hS.F ht9⟩) hS.2.2 dX8_line_22
set_option maxHeartbeats 1000000 in
set_option maxRecDepth 100000 in
theorem c_X8_line_yes (l : Launch) (E : EnvT) (sz : Nat) (g0 : Nat) (gm : Nat) (gk : Nat) (gs : Nat) (ga : Nat) (gl : Nat) (gh : Nat) (gd : Nat) (wA : Int32) (wB : Int32) (wU : Int32) (a1 : Nat) (a2 : Nat) (n : Nat) (th : Nat) (To : Nat → Int32) (Bo : Nat → Int32) (an : Nat) (ae : Nat) (af : Nat) (ac : Nat) (cd : Int32) (tg : Int32) (szz : Int32) (ld : Int32) (up : Int32) (dn : Int32) (hn : n < 12) (hy : (1 ≤ up ∧ up ≤ 10000) ∧ (1 ≤ dn ∧ dn ≤ 10000)) : Met l yX8_line wsX8_line ({ frames := 2, cells := 0, slots := 0, locals := 44 }) (va_Pc [.ref g0, .int up, .int dn] (PW E [(g0, .inr (8, [.ref gm, .ref gk, .ref gs, .ref ga, .ref gl, .ref gh, .ref gd, .int wA, .int wB, .int wU])), (gl, .inr (1, [.ref a1, .ref a2, .int (nI n), .int (nI th)])), (a1, .inl (E.2 1, 12, .inl To)), (a2, .inl (E.2 1, 12, .inl Bo)), (gh, .inr (0, [.ref an, .ref ae, .ref af, .ref ac, .int cd, .int tg, .int szz, .int ld]))] sz)) (va_Qi (fun (r : Int32) (uu : Unit) => r = nI n) (fun (uu : Unit) t => BW E (va_A [(g0, .inr (8, [.ref gm, .ref gk, .ref gs, .ref ga, .ref gl, .ref gh, .ref gd, .int wA, .int wB, .int wU])), (gl, .inr (1, [.ref a1, .ref a2, .int (nI n), .int (nI th)])), (a1, .inl (E.2 1, 12, .inl To)), (a2, .inl (E.2 1, 12, .inl Bo)), (gh, .inr (0, [.ref an, .ref ae, .ref af, .ref ac, .int cd, .int tg, .int szz, .int ld]))] sz) [(g0, .inr (8, [.ref gm, .ref gk, .ref gs, .ref ga, .ref gl, .ref gh, .ref gd, .int wA, .int wB, .int wU])), (gl, .inr (1, [.ref a1, .ref a2, .int (nI (n + 1)), .int (nI th)])), (a1, .inl (E.2 1, 12, .inl (upd To n up))), (a2, .inl (E.2 1, 12, .inl (upd Bo n dn))), (gh, .inr (0, [.ref an, .ref ae, .ref af, .ref ac, .int cd, .int tg, .int szz, .int 0]))] t) (va_A [(g0, .inr (8, [.ref gm, .ref gk, .ref gs, .ref ga, .ref gl, .ref gh, .ref gd, .int wA, .int wB, .int wU])), (gl, .inr (1, [.ref a1, .ref a2, .int (nI n), .int (nI th)])), (a1, .inl (E.2 1, 12, .inl To)), (a2, .inl (E.2 1, 12, .inl Bo)), (gh, .inr (0, [.ref an, .ref ae, .ref af, .ref ac, .int cd, .int tg, .int szz, .int ld]))] sz)) 0 0 (va_A [(g0, .inr (8, [.ref gm, .ref gk, .ref gs, .ref ga, .ref gl, .ref gh, .ref gd, .int wA, .int wB, .int wU])), (gl, .inr (1, [.ref a1, .ref a2, .int (nI n), .int (nI th)])), (a1, .inl (E.2 1, 12, .inl To)), (a2, .inl (E.2 1, 12, .inl Bo)), (gh, .inr (0, [.ref an, .ref ae, .ref af, .ref ac, .int cd, .int tg, .int szz, .int ld]))] sz) := by
  refine Met.ofW (cc := cX8_line) (maxL := 4) (ret := (some .int)) (by decide +kernel) rfl ?_
  intro p e s m args below meth c s₁ B hml hv
  obtain ⟨rfl, hsz, hP, hE, hD0⟩ := hv
  have hx := B.exec
  have hb := B.bytes
  have hr := B.returns
  have hts := atoms_spec (ws := wsX8_line) B.pre
  have hown : s.vm.findClass RX8 = some m.cls := findClass_of_methodNamed B.named
  have hlocks := B.notSynchronized
  have hK := hE.1
  have hNN := hE.2.1
  have hinX8 : ∀ w ∈ wsX80, w ∈ wsX8_line := fun w h => List.mem_cons_of_mem _ (List.mem_append_left _ (List.mem_append_left _ (List.mem_append_right _ h)))
  subst hsz
  have hD := hD0.self (sz := s.heap.size)
  generalize hAe : va_A [(g0, .inr (8, [.ref gm, .ref gk, .ref gs, .ref ga, .ref gl, .ref gh, .ref gd, .int wA, .int wB, .int wU])), (gl, .inr (1, [.ref a1, .ref a2, .int (nI n), .int (nI th)])), (a1, .inl (E.2 1, 12, .inl To)), (a2, .inl (E.2 1, 12, .inl Bo)), (gh, .inr (0, [.ref an, .ref ae, .ref af, .ref ac, .int cd, .int tg, .int szz, .int ld]))] s.heap.size = A at hD ⊢
  have hA : ∀ q : Nat, s.heap.size ≤ q → A q := fun q h => by rw [← hAe]; exact Or.inr h
  have hS : va_S A s.heap s.heap [] := va_S.rf
  have hl := lv_entry ([.ref g0, .int up, .int dn]) (n := 4) (Nat.le_of_ble_eq_true rfl)
  rw [lg_entry_eq]
  generalize (lg_sl ([.ref g0, .int up, .int dn]) ++ List.replicate (4 - (lg_sl ([.ref g0, .int up, .int dn])).length) Slot.unset).toArray = ls at hl ⊢
  have hl : lv_has ls 4 [(0, .ref g0), (1, .int up), (2, .int dn)] := hl
  refine lv_aload_n hx hb dX8_line_0 rfl (lv_at hl 0 rfl) ?_
  refine va_get (D := E.1) (ci := 8) (v := .ref gl) (C := RX8) (T := TX8) (N := 10) hx hb hts hinX8 hown hK hP 0 rfl rfl 4 (by decide) (hts (.fieldLink RX8 39 "WornRings" "lines" "LWornRings$Lines;") (by decide +kernel)) (fun _ h9 => h9) rfl dX8_line_1 ?_
  refine lv_iload_n hx hb dX8_line_4 rfl (lv_at hl 1 rfl) ?_
  refine lv_iload_n hx hb dX8_line_5 rfl (lv_at hl 2 rfl) ?_
  refine wVi (wr := [(g0, .inr (8, [.ref gm, .ref gk, .ref gs, .ref ga, .ref gl, .ref gh, .ref gd, .int wA, .int wB, .int wU])), (gh, .inr (0, [.ref an, .ref ae, .ref af, .ref ac, .int cd, .int tg, .int szz, .int ld]))]) hE ⟨hx, hb, hml, hown, hts⟩ (c_X1_add_yes l E s.heap.size gl a1 a2 n th To Bo up dn (hn) (hy)) (cwV 2 hts gX8_line_X1_add rfl rfl rfl (by decide +kernel) ⟨Nat.le_of_ble_eq_true rfl, Nat.le_of_ble_eq_true rfl⟩) hP hD hS hA [1, 2, 3] [0, 4] rfl rfl (by decide) (by decide) (by decide) 0 1 rfl rfl rfl hl.1 rfl (Nat.le_of_ble_eq_true rfl) dX8_line_6 ⟨(Nat.zero_le _), (Nat.zero_le _)⟩ (fun r_6 u H locs hw hP hD hS => ?_)
  have hP : va_P E.1 vwCl [(g0, .inr (8, [.ref gm, .ref gk, .ref gs, .ref ga, .ref gl, .ref gh, .ref gd, .int wA, .int wB, .int wU])), (gh, .inr (0, [.ref an, .ref ae, .ref af, .ref ac, .int cd, .int tg, .int szz, .int ld])), (gl, .inr (1, [.ref a1, .ref a2, .int (nI (n + 1)), .int (nI th)])), (a1, .inl (E.2 1, 12, .inl (upd To n up))), (a2, .inl (E.2 1, 12, .inl (upd Bo n dn)))] H := hP
  have hD : va_D A [(g0, .inr (8, [.ref gm, .ref gk, .ref gs, .ref ga, .ref gl, .ref gh, .ref gd, .int wA, .int wB, .int wU])), (gh, .inr (0, [.ref an, .ref ae, .ref af, .ref ac, .int cd, .int tg, .int szz, .int ld])), (gl, .inr (1, [.ref a1, .ref a2, .int (nI (n + 1)), .int (nI th)])), (a1, .inl (E.2 1, 12, .inl (upd To n up))), (a2, .inl (E.2 1, 12, .inl (upd Bo n dn)))] := hD
  rw [hw]
  refine lv_istore_n (lv' := [(3, .int (nI n)), (0, .ref g0), (1, .int up), (2, .int dn)]) hx hb dX8_line_9 rfl hl (by decide) rfl (fun ls hl => ?_)
  refine lv_iload_n hx hb dX8_line_10 rfl (lv_at hl 0 rfl) ?_
  refine lv_if_lt (tgt := 21) hx hb dX8_line_11 (by decide) (fun c_11 => by exfalso; have c_11 : n < 0 := (nI_ltI (a := n) (b := 0) (by omega) (by omega)).mp c_11; omega) (fun c_11 => ?_)
  have c_11 : ¬ n < 0 := fun h9 => c_11 ((nI_ltI (a := n) (b := 0) (by omega) (by omega)).mpr h9)
  refine lv_aload_n hx hb dX8_line_14 rfl (lv_at hl 1 rfl) ?_
  refine va_get (D := E.1) (ci := 8) (v := .ref gh) (C := RX8) (T := TX8) (N := 10) hx hb hts hinX8 hown hK hP 0 rfl rfl 5 (by decide) (hts (.fieldLink RX8 46 "WornRings" "fewestParts" "LWornRings$Heap;") (by decide +kernel)) (fun _ h9 => h9) rfl dX8_line_15 ?_
  refine wVv (wr := [(g0, .inr (8, [.ref gm, .ref gk, .ref gs, .ref ga, .ref gl, .ref gh, .ref gd, .int wA, .int wB, .int wU])), (gl, .inr (1, [.ref a1, .ref a2, .int (nI (n + 1)), .int (nI th)])), (a1, .inl (E.2 1, 12, .inl (upd To n up))), (a2, .inl (E.2 1, 12, .inl (upd Bo n dn)))]) hE ⟨hx, hb, hml, hown, hts⟩ (c_X0_forget l E H.size gh an ae af ac cd tg szz ld ) (cwV 0 hts gX8_line_X0_forget rfl rfl rfl (by decide +kernel) ⟨Nat.le_of_ble_eq_true rfl, Nat.le_of_ble_eq_true rfl⟩) hP hD hS hA [1] [0, 2, 3, 4] rfl rfl (by decide) (by decide) (by decide) 0 0 rfl rfl rfl hl.1 rfl (Nat.le_of_ble_eq_true rfl) dX8_line_18 ⟨(Nat.zero_le _), (Nat.zero_le _)⟩ (fun u H locs hw hP hD hS => ?_)
  have hP : va_P E.1 vwCl [(g0, .inr (8, [.ref gm, .ref gk, .ref gs, .ref ga, .ref gl, .ref gh, .ref gd, .int wA, .int wB, .int wU])), (gl, .inr (1, [.ref a1, .ref a2, .int (nI (n + 1)), .int (nI th)])), (a1, .inl (E.2 1, 12, .inl (upd To n up))), (a2, .inl (E.2 1, 12, .inl (upd Bo n dn))), (gh, .inr (0, [.ref an, .ref ae, .ref af, .ref ac, .int cd, .int tg, .int szz, .int 0]))] H := hP
  have hD : va_D A [(g0, .inr (8, [.ref gm, .ref gk, .ref gs, .ref ga, .ref gl, .ref gh, .ref gd, .int wA, .int wB, .int wU])), (gl, .inr (1, [.ref a1, .ref a2, .int (nI (n + 1)), .int (nI th)])), (a1, .inl (E.2 1, 12, .inl (upd To n up))), (a2, .inl (E.2 1, 12, .inl (upd Bo n dn))), (gh, .inr (0, [.ref an, .ref ae, .ref af, .ref ac, .int cd, .int tg, .int szz, .int 0]))] := hD
  refine lv_iload_n hx hb dX8_line_21 rfl (lv_at hl 0 rfl) ?_
  have hP9 : va_P E.1 vwCl [(g0, .inr (8, [.ref gm, .ref gk, .ref gs, .ref ga, .ref gl, .ref gh, .ref gd, .int wA, .int wB, .int wU])), (gl, .inr (1, [.ref a1, .ref a2, .int (nI (n + 1)), .int (nI th)])), (a1, .inl (E.2 1, 12, .inl (upd To n up))), (a2, .inl (E.2 1, 12, .inl (upd Bo n dn))), (gh, .inr (0, [.ref an, .ref ae, .ref af, .ref ac, .int cd, .int tg, .int szz, .int 0]))] H := hP.sub [0, 1, 2, 3, 4] rfl
  have hD9 : va_D A [(g0, .inr (8, [.ref gm, .ref gk, .ref gs, .ref ga, .ref gl, .ref gh, .ref gd, .int wA, .int wB, .int wU])), (gl, .inr (1, [.ref a1, .ref a2, .int (nI (n + 1)), .int (nI th)])), (a1, .inl (E.2 1, 12, .inl (upd To n up))), (a2, .inl (E.2 1, 12, .inl (upd Bo n dn))), (gh, .inr (0, [.ref an, .ref ae, .ref af, .ref ac, .int cd, .int tg, .int szz, .int 0]))] := hD.sub [0, 1, 2, 3, 4] (by decide) rfl
  exact W.iret (v := nI n) hx hb hr (fun t9 ht9 hW9 => ⟨⟨nI n, (), rfl, rfl, ⟨by rw [ht9]; exact hP9, hD9⟩⟩, hS.F ht9⟩) hS.2.2 dX8_line_22
set_option maxHeartbeats 1000000 in
set_option maxRecDepth 100000 in
theorem c_X8_unline (l : Launch) (E : EnvT) (sz : Nat) (g0 : Nat) (gm : Nat) (gk : Nat) (gs : Nat) (ga : Nat) (gl : Nat) (gh : Nat) (gd : Nat) (wA : Int32) (wB : Int32) (wU : Int32) (a1 : Nat) (a2 : Nat) (n : Nat) (th : Nat) (To : Nat → Int32) (Bo : Nat → Int32) (an : Nat) (ae : Nat) (af : Nat) (ac : Nat) (cd : Int32) (tg : Int32) (szz : Int32) (ld : Int32)  : Met l yX8_unline wsX8_unline ({ frames := 1, cells := 0, slots := 0, locals := 20 }) (va_Pc [.ref g0] (PW E [(g0, .inr (8, [.ref gm, .ref gk, .ref gs, .ref ga, .ref gl, .ref gh, .ref gd, .int wA, .int wB, .int wU])), (gl, .inr (1, [.ref a1, .ref a2, .int (nI n), .int (nI th)])), (a1, .inl (E.2 1, 12, .inl To)), (a2, .inl (E.2 1, 12, .inl Bo)), (gh, .inr (0, [.ref an, .ref ae, .ref af, .ref ac, .int cd, .int tg, .int szz, .int ld]))] sz)) (va_Qi (fun (r : Int32) (uu : Unit) => r = nI n) (fun (uu : Unit) t => BW E (va_A [(g0, .inr (8, [.ref gm, .ref gk, .ref gs, .ref ga, .ref gl, .ref gh, .ref gd, .int wA, .int wB, .int wU])), (gl, .inr (1, [.ref a1, .ref a2, .int (nI n), .int (nI th)])), (a1, .inl (E.2 1, 12, .inl To)), (a2, .inl (E.2 1, 12, .inl Bo)), (gh, .inr (0, [.ref an, .ref ae, .ref af, .ref ac, .int cd, .int tg, .int szz, .int ld]))] sz) [(g0, .inr (8, [.ref gm, .ref gk, .ref gs, .ref ga, .ref gl, .ref gh, .ref gd, .int wA, .int wB, .int wU])), (gl, .inr (1, [.ref a1, .ref a2, .int 0, .int (nI th)])), (a1, .inl (E.2 1, 12, .inl To)), (a2, .inl (E.2 1, 12, .inl Bo)), (gh, .inr (0, [.ref an, .ref ae, .ref af, .ref ac, .int cd, .int tg, .int szz, .int 0]))] t) (va_A [(g0, .inr (8, [.ref gm, .ref gk, .ref gs, .ref ga, .ref gl, .ref gh, .ref gd, .int wA, .int wB, .int wU])), (gl, .inr (1, [.ref a1, .ref a2, .int (nI n), .int (nI th)])), (a1, .inl (E.2 1, 12, .inl To)), (a2, .inl (E.2 1, 12, .inl Bo)), (gh, .inr (0, [.ref an, .ref ae, .ref af, .ref ac, .int cd, .int tg, .int szz, .int ld]))] sz)) 0 0 (va_A [(g0, .inr (8, [.ref gm, .ref gk, .ref gs, .ref ga, .ref gl, .ref gh, .ref gd, .int wA, .int wB, .int wU])), (gl, .inr (1, [.ref a1, .ref a2, .int (nI n), .int (nI th)])), (a1, .inl (E.2 1, 12, .inl To)), (a2, .inl (E.2 1, 12, .inl Bo)), (gh, .inr (0, [.ref an, .ref ae, .ref af, .ref ac, .int cd, .int tg, .int szz, .int ld]))] sz) := by
  refine Met.ofW (cc := cX8_unline) (maxL := 2) (ret := (some .int)) (by decide +kernel) rfl ?_
  intro p e s m args below meth c s₁ B hml hv
  obtain ⟨rfl, hsz, hP, hE, hD0⟩ := hv
  have hx := B.exec
  have hb := B.bytes
  have hr := B.returns
  have hts := atoms_spec (ws := wsX8_unline) B.pre
  have hown : s.vm.findClass RX8 = some m.cls := findClass_of_methodNamed B.named
  have hlocks := B.notSynchronized
  have hK := hE.1
  have hNN := hE.2.1
  have hinX8 : ∀ w ∈ wsX80, w ∈ wsX8_unline := fun w h => List.mem_cons_of_mem _ (List.mem_append_left _ (List.mem_append_left _ (List.mem_append_right _ h)))
  have hinX1 : ∀ w ∈ wsX10, w ∈ wsX8_unline := fun w h => List.mem_cons_of_mem _ (List.mem_append_left _ (List.mem_append_right _ h))
  subst hsz
  have hD := hD0.self (sz := s.heap.size)
  generalize hAe : va_A [(g0, .inr (8, [.ref gm, .ref gk, .ref gs, .ref ga, .ref gl, .ref gh, .ref gd, .int wA, .int wB, .int wU])), (gl, .inr (1, [.ref a1, .ref a2, .int (nI n), .int (nI th)])), (a1, .inl (E.2 1, 12, .inl To)), (a2, .inl (E.2 1, 12, .inl Bo)), (gh, .inr (0, [.ref an, .ref ae, .ref af, .ref ac, .int cd, .int tg, .int szz, .int ld]))] s.heap.size = A at hD ⊢
  have hA : ∀ q : Nat, s.heap.size ≤ q → A q := fun q h => by rw [← hAe]; exact Or.inr h
  have hS : va_S A s.heap s.heap [] := va_S.rf
  have hl := lv_entry ([.ref g0]) (n := 2) (Nat.le_of_ble_eq_true rfl)
  rw [lg_entry_eq]
  generalize (lg_sl ([.ref g0]) ++ List.replicate (2 - (lg_sl ([.ref g0])).length) Slot.unset).toArray = ls at hl ⊢
  have hl : lv_has ls 2 [(0, .ref g0)] := hl
  refine lv_aload_n hx hb dX8_unline_0 rfl (lv_at hl 0 rfl) ?_
  refine va_get (D := E.1) (ci := 8) (v := .ref gl) (C := RX8) (T := TX8) (N := 10) hx hb hts hinX8 hown hK hP 0 rfl rfl 4 (by decide) (hts (.fieldLink RX8 39 "WornRings" "lines" "LWornRings$Lines;") (by decide +kernel)) (fun _ h9 => h9) rfl dX8_unline_1 ?_
  refine va_getN (D := E.1) (host := "WornRings") (ref := "WornRings$Lines") (ci := 1) (v := .int (nI n)) (C := RX1) (T := TX1) (N := 4) hx hb hts hinX1 hown hK hP 1 rfl rfl 2 (by decide) (va_Nw.use rfl (hNN (.fieldLinkNest RX8 184 "WornRings$Lines" "count" "I" "WornRings") (by decide +kernel))) (fun _ h9 => h9) rfl dX8_unline_4 ?_
  refine lv_istore_n (lv' := [(1, .int (nI n)), (0, .ref g0)]) hx hb dX8_unline_7 rfl hl (by decide) rfl (fun ls hl => ?_)
  refine lv_aload_n hx hb dX8_unline_8 rfl (lv_at hl 1 rfl) ?_
  refine va_get (D := E.1) (ci := 8) (v := .ref gl) (C := RX8) (T := TX8) (N := 10) hx hb hts hinX8 hown hK hP 0 rfl rfl 4 (by decide) (hts (.fieldLink RX8 39 "WornRings" "lines" "LWornRings$Lines;") (by decide +kernel)) (fun _ h9 => h9) rfl dX8_unline_9 ?_
  refine lv_iconst (v := 0) hx hb dX8_unline_12 (by decide) ?_
  refine va_putN (host := "WornRings") (ref := "WornRings$Lines") (D := E.1) (ci := 1) (v := .int 0) (ty := .int) (C := RX1) (T := TX1) (N := 4) hx hb hts hinX1 tyX1 tyX1_ok nmX1 hown hK hP hD hS 1 rfl rfl 2 (by decide) (va_Nw.use rfl (hNN (.fieldLinkNest RX8 184 "WornRings$Lines" "count" "I" "WornRings") (by decide +kernel))) (fun _ h9 => h9) rfl (by decide +kernel) (rfl) (rfl) (Nat.le_of_ble_eq_true rfl) dX8_unline_13 (fun H locs hP hD hS => ?_)
  have hP : va_P E.1 vwCl [(g0, .inr (8, [.ref gm, .ref gk, .ref gs, .ref ga, .ref gl, .ref gh, .ref gd, .int wA, .int wB, .int wU])), (gl, .inr (1, [.ref a1, .ref a2, .int 0, .int (nI th)])), (a1, .inl (E.2 1, 12, .inl To)), (a2, .inl (E.2 1, 12, .inl Bo)), (gh, .inr (0, [.ref an, .ref ae, .ref af, .ref ac, .int cd, .int tg, .int szz, .int ld]))] H := hP
  have hD : va_D A [(g0, .inr (8, [.ref gm, .ref gk, .ref gs, .ref ga, .ref gl, .ref gh, .ref gd, .int wA, .int wB, .int wU])), (gl, .inr (1, [.ref a1, .ref a2, .int 0, .int (nI th)])), (a1, .inl (E.2 1, 12, .inl To)), (a2, .inl (E.2 1, 12, .inl Bo)), (gh, .inr (0, [.ref an, .ref ae, .ref af, .ref ac, .int cd, .int tg, .int szz, .int ld]))] := hD
  refine lv_aload_n hx hb dX8_unline_16 rfl (lv_at hl 1 rfl) ?_
  refine va_get (D := E.1) (ci := 8) (v := .ref gh) (C := RX8) (T := TX8) (N := 10) hx hb hts hinX8 hown hK hP 0 rfl rfl 5 (by decide) (hts (.fieldLink RX8 46 "WornRings" "fewestParts" "LWornRings$Heap;") (by decide +kernel)) (fun _ h9 => h9) rfl dX8_unline_17 ?_
  refine wVv (wr := [(g0, .inr (8, [.ref gm, .ref gk, .ref gs, .ref ga, .ref gl, .ref gh, .ref gd, .int wA, .int wB, .int wU])), (gl, .inr (1, [.ref a1, .ref a2, .int 0, .int (nI th)])), (a1, .inl (E.2 1, 12, .inl To)), (a2, .inl (E.2 1, 12, .inl Bo))]) hE ⟨hx, hb, hml, hown, hts⟩ (c_X0_forget l E H.size gh an ae af ac cd tg szz ld ) (cwV 0 hts gX8_unline_X0_forget rfl rfl rfl (by decide +kernel) ⟨Nat.le_of_ble_eq_true rfl, Nat.le_of_ble_eq_true rfl⟩) hP hD hS hA [4] [0, 1, 2, 3] rfl rfl (by decide) (by decide) (by decide) 0 0 rfl rfl rfl hl.1 rfl (Nat.le_of_ble_eq_true rfl) dX8_unline_20 ⟨(Nat.zero_le _), (Nat.zero_le _)⟩ (fun u H locs hw hP hD hS => ?_)
  have hP : va_P E.1 vwCl [(g0, .inr (8, [.ref gm, .ref gk, .ref gs, .ref ga, .ref gl, .ref gh, .ref gd, .int wA, .int wB, .int wU])), (gl, .inr (1, [.ref a1, .ref a2, .int 0, .int (nI th)])), (a1, .inl (E.2 1, 12, .inl To)), (a2, .inl (E.2 1, 12, .inl Bo)), (gh, .inr (0, [.ref an, .ref ae, .ref af, .ref ac, .int cd, .int tg, .int szz, .int 0]))] H := hP
  have hD : va_D A [(g0, .inr (8, [.ref gm, .ref gk, .ref gs, .ref ga, .ref gl, .ref gh, .ref gd, .int wA, .int wB, .int wU])), (gl, .inr (1, [.ref a1, .ref a2, .int 0, .int (nI th)])), (a1, .inl (E.2 1, 12, .inl To)), (a2, .inl (E.2 1, 12, .inl Bo)), (gh, .inr (0, [.ref an, .ref ae, .ref af, .ref ac, .int cd, .int tg, .int szz, .int 0]))] := hD
  refine lv_iload_n hx hb dX8_unline_23 rfl (lv_at hl 0 rfl) ?_
  have hP9 : va_P E.1 vwCl [(g0, .inr (8, [.ref gm, .ref gk, .ref gs, .ref ga, .ref gl, .ref gh, .ref gd, .int wA, .int wB, .int wU])), (gl, .inr (1, [.ref a1, .ref a2, .int 0, .int (nI th)])), (a1, .inl (E.2 1, 12, .inl To)), (a2, .inl (E.2 1, 12, .inl Bo)), (gh, .inr (0, [.ref an, .ref ae, .ref af, .ref ac, .int cd, .int tg, .int szz, .int 0]))] H := hP.sub [0, 1, 2, 3, 4] rfl
  have hD9 : va_D A [(g0, .inr (8, [.ref gm, .ref gk, .ref gs, .ref ga, .ref gl, .ref gh, .ref gd, .int wA, .int wB, .int wU])), (gl, .inr (1, [.ref a1, .ref a2, .int 0, .int (nI th)])), (a1, .inl (E.2 1, 12, .inl To)), (a2, .inl (E.2 1, 12, .inl Bo)), (gh, .inr (0, [.ref an, .ref ae, .ref af, .ref ac, .int cd, .int tg, .int szz, .int 0]))] := hD.sub [0, 1, 2, 3, 4] (by decide) rfl
  exact W.iret (v := nI n) hx hb hr (fun t9 ht9 hW9 => ⟨⟨nI n, (), rfl, rfl, ⟨by rw [ht9]; exact hP9, hD9⟩⟩, hS.F ht9⟩) hS.2.2 dX8_unline_24
set_option maxHeartbeats 1000000 in
set_option maxRecDepth 100000 in
theorem c_X8_slip_no (l : Launch) (E : EnvT) (sz : Nat) (g0 : Nat) (gm : Nat) (gk : Nat) (gs : Nat) (ga : Nat) (gl : Nat) (gh : Nat) (gd : Nat) (wA : Int32) (wB : Int32) (wU : Int32) (ev : Int32) (hno : ¬ (0 ≤ ev ∧ ev ≤ 100)) : Met l yX8_slip wsX8_slip ({ frames := 1, cells := 0, slots := 0, locals := 22 }) (va_Pc [.ref g0, .int ev] (PW E [(g0, .inr (8, [.ref gm, .ref gk, .ref gs, .ref ga, .ref gl, .ref gh, .ref gd, .int wA, .int wB, .int wU]))] sz)) (va_Qi (fun (r : Int32) (uu : Unit) => r = -1) (fun (uu : Unit) t => BW E (va_A [(g0, .inr (8, [.ref gm, .ref gk, .ref gs, .ref ga, .ref gl, .ref gh, .ref gd, .int wA, .int wB, .int wU]))] sz) [(g0, .inr (8, [.ref gm, .ref gk, .ref gs, .ref ga, .ref gl, .ref gh, .ref gd, .int wA, .int wB, .int wU]))] t) (va_A [(g0, .inr (8, [.ref gm, .ref gk, .ref gs, .ref ga, .ref gl, .ref gh, .ref gd, .int wA, .int wB, .int wU]))] sz)) 0 0 (va_A [(g0, .inr (8, [.ref gm, .ref gk, .ref gs, .ref ga, .ref gl, .ref gh, .ref gd, .int wA, .int wB, .int wU]))] sz) := by
  refine Met.ofW (cc := cX8_slip) (maxL := 3) (ret := (some .int)) (by decide +kernel) rfl ?_
  intro p e s m args below meth c s₁ B hml hv
  obtain ⟨rfl, hsz, hP, hE, hD0⟩ := hv
  have hx := B.exec
  have hb := B.bytes
  have hr := B.returns
  have hts := atoms_spec (ws := wsX8_slip) B.pre
  have hown : s.vm.findClass RX8 = some m.cls := findClass_of_methodNamed B.named
  have hlocks := B.notSynchronized
  have hK := hE.1
  have hNN := hE.2.1
  subst hsz
  have hD := hD0.self (sz := s.heap.size)
  generalize hAe : va_A [(g0, .inr (8, [.ref gm, .ref gk, .ref gs, .ref ga, .ref gl, .ref gh, .ref gd, .int wA, .int wB, .int wU]))] s.heap.size = A at hD ⊢
  have hA : ∀ q : Nat, s.heap.size ≤ q → A q := fun q h => by rw [← hAe]; exact Or.inr h
  have hS : va_S A s.heap s.heap [] := va_S.rf
  have hl := lv_entry ([.ref g0, .int ev]) (n := 3) (Nat.le_of_ble_eq_true rfl)
  rw [lg_entry_eq]
  generalize (lg_sl ([.ref g0, .int ev]) ++ List.replicate (3 - (lg_sl ([.ref g0, .int ev])).length) Slot.unset).toArray = ls at hl ⊢
  have hl : lv_has ls 3 [(0, .ref g0), (1, .int ev)] := hl
  refine lv_iload_n hx hb dX8_slip_0 rfl (lv_at hl 1 rfl) ?_
  refine lv_iconst (v := 0) hx hb dX8_slip_1 (by decide) ?_
  refine lv_bipush (v := 100) hx hb dX8_slip_2 (by decide) ?_
  refine rSi hE ⟨hx, hb, hml, hown, hts⟩ (c_X8_within l E ev 0 100 ) (va_cwS 3 hts gX8_slip_X8_within rfl rfl rfl (by decide +kernel) ⟨Nat.le_of_ble_eq_true rfl, Nat.le_of_ble_eq_true rfl⟩) (hP.sub [] rfl) rfl hl.1 rfl (Nat.le_of_ble_eq_true rfl) dX8_slip_4 ⟨(Nat.zero_le _), (Nat.zero_le _)⟩ ?_
  refine lv_if_ne (tgt := 12) hx hb dX8_slip_7 (by decide) (fun c_7 => by exfalso; have c_7 := fWi_1 c_7; exact hno c_7) (fun c_7 => ?_)
  have c_7 := fWi_0 c_7
  refine lv_iconst (v := (-1)) hx hb dX8_slip_10 (by decide) ?_
  have hP9 : va_P E.1 vwCl [(g0, .inr (8, [.ref gm, .ref gk, .ref gs, .ref ga, .ref gl, .ref gh, .ref gd, .int wA, .int wB, .int wU]))] s.heap := hP.sub [0] rfl
  have hD9 : va_D A [(g0, .inr (8, [.ref gm, .ref gk, .ref gs, .ref ga, .ref gl, .ref gh, .ref gd, .int wA, .int wB, .int wU]))] := hD.sub [0] (by decide) rfl
  exact W.iret (v := (-1)) hx hb hr (fun t9 ht9 hW9 => ⟨⟨(-1), (), rfl, rfl, ⟨by rw [ht9]; exact hP9, hD9⟩⟩, hS.F ht9⟩) hS.2.2 dX8_slip_11
set_option maxHeartbeats 1000000 in
set_option maxRecDepth 100000 in
theorem c_X8_slip_yes (l : Launch) (E : EnvT) (sz : Nat) (g0 : Nat) (gm : Nat) (gk : Nat) (gs : Nat) (ga : Nat) (gl : Nat) (gh : Nat) (gd : Nat) (wA : Int32) (wB : Int32) (wU : Int32) (a1 : Nat) (a2 : Nat) (n : Nat) (th : Nat) (To : Nat → Int32) (Bo : Nat → Int32) (an : Nat) (ae : Nat) (af : Nat) (ac : Nat) (cd : Int32) (tg : Int32) (szz : Int32) (ld : Int32) (ev : Nat) (he : ev ≤ 100) : Met l yX8_slip wsX8_slip ({ frames := 1, cells := 0, slots := 0, locals := 22 }) (va_Pc [.ref g0, .int (nI ev)] (PW E [(g0, .inr (8, [.ref gm, .ref gk, .ref gs, .ref ga, .ref gl, .ref gh, .ref gd, .int wA, .int wB, .int wU])), (gl, .inr (1, [.ref a1, .ref a2, .int (nI n), .int (nI th)])), (a1, .inl (E.2 1, 12, .inl To)), (a2, .inl (E.2 1, 12, .inl Bo)), (gh, .inr (0, [.ref an, .ref ae, .ref af, .ref ac, .int cd, .int tg, .int szz, .int ld]))] sz)) (va_Qi (fun (r : Int32) (uu : Unit) => r = nI th) (fun (uu : Unit) t => BW E (va_A [(g0, .inr (8, [.ref gm, .ref gk, .ref gs, .ref ga, .ref gl, .ref gh, .ref gd, .int wA, .int wB, .int wU])), (gl, .inr (1, [.ref a1, .ref a2, .int (nI n), .int (nI th)])), (a1, .inl (E.2 1, 12, .inl To)), (a2, .inl (E.2 1, 12, .inl Bo)), (gh, .inr (0, [.ref an, .ref ae, .ref af, .ref ac, .int cd, .int tg, .int szz, .int ld]))] sz) [(g0, .inr (8, [.ref gm, .ref gk, .ref gs, .ref ga, .ref gl, .ref gh, .ref gd, .int wA, .int wB, .int wU])), (gl, .inr (1, [.ref a1, .ref a2, .int (nI n), .int (nI ev)])), (a1, .inl (E.2 1, 12, .inl To)), (a2, .inl (E.2 1, 12, .inl Bo)), (gh, .inr (0, [.ref an, .ref ae, .ref af, .ref ac, .int cd, .int tg, .int szz, .int 0]))] t) (va_A [(g0, .inr (8, [.ref gm, .ref gk, .ref gs, .ref ga, .ref gl, .ref gh, .ref gd, .int wA, .int wB, .int wU])), (gl, .inr (1, [.ref a1, .ref a2, .int (nI n), .int (nI th)])), (a1, .inl (E.2 1, 12, .inl To)), (a2, .inl (E.2 1, 12, .inl Bo)), (gh, .inr (0, [.ref an, .ref ae, .ref af, .ref ac, .int cd, .int tg, .int szz, .int ld]))] sz)) 0 0 (va_A [(g0, .inr (8, [.ref gm, .ref gk, .ref gs, .ref ga, .ref gl, .ref gh, .ref gd, .int wA, .int wB, .int wU])), (gl, .inr (1, [.ref a1, .ref a2, .int (nI n), .int (nI th)])), (a1, .inl (E.2 1, 12, .inl To)), (a2, .inl (E.2 1, 12, .inl Bo)), (gh, .inr (0, [.ref an, .ref ae, .ref af, .ref ac, .int cd, .int tg, .int szz, .int ld]))] sz) := by
  refine Met.ofW (cc := cX8_slip) (maxL := 3) (ret := (some .int)) (by decide +kernel) rfl ?_
  intro p e s m args below meth c s₁ B hml hv
  obtain ⟨rfl, hsz, hP, hE, hD0⟩ := hv
  have hx := B.exec
  have hb := B.bytes
  have hr := B.returns
  have hts := atoms_spec (ws := wsX8_slip) B.pre
  have hown : s.vm.findClass RX8 = some m.cls := findClass_of_methodNamed B.named
  have hlocks := B.notSynchronized
  have hK := hE.1
  have hNN := hE.2.1
  have hinX8 : ∀ w ∈ wsX80, w ∈ wsX8_slip := fun w h => List.mem_cons_of_mem _ (List.mem_append_left _ (List.mem_append_left _ (List.mem_append_right _ h)))
  have hinX1 : ∀ w ∈ wsX10, w ∈ wsX8_slip := fun w h => List.mem_cons_of_mem _ (List.mem_append_left _ (List.mem_append_right _ h))
  subst hsz
  have hD := hD0.self (sz := s.heap.size)
  generalize hAe : va_A [(g0, .inr (8, [.ref gm, .ref gk, .ref gs, .ref ga, .ref gl, .ref gh, .ref gd, .int wA, .int wB, .int wU])), (gl, .inr (1, [.ref a1, .ref a2, .int (nI n), .int (nI th)])), (a1, .inl (E.2 1, 12, .inl To)), (a2, .inl (E.2 1, 12, .inl Bo)), (gh, .inr (0, [.ref an, .ref ae, .ref af, .ref ac, .int cd, .int tg, .int szz, .int ld]))] s.heap.size = A at hD ⊢
  have hA : ∀ q : Nat, s.heap.size ≤ q → A q := fun q h => by rw [← hAe]; exact Or.inr h
  have hS : va_S A s.heap s.heap [] := va_S.rf
  have hl := lv_entry ([.ref g0, .int (nI ev)]) (n := 3) (Nat.le_of_ble_eq_true rfl)
  rw [lg_entry_eq]
  generalize (lg_sl ([.ref g0, .int (nI ev)]) ++ List.replicate (3 - (lg_sl ([.ref g0, .int (nI ev)])).length) Slot.unset).toArray = ls at hl ⊢
  have hl : lv_has ls 3 [(0, .ref g0), (1, .int (nI ev))] := hl
  refine lv_iload_n hx hb dX8_slip_0 rfl (lv_at hl 1 rfl) ?_
  refine lv_iconst (v := 0) hx hb dX8_slip_1 (by decide) ?_
  refine lv_bipush (v := 100) hx hb dX8_slip_2 (by decide) ?_
  refine rSi hE ⟨hx, hb, hml, hown, hts⟩ (c_X8_within l E (nI ev) 0 100 ) (va_cwS 3 hts gX8_slip_X8_within rfl rfl rfl (by decide +kernel) ⟨Nat.le_of_ble_eq_true rfl, Nat.le_of_ble_eq_true rfl⟩) (hP.sub [] rfl) rfl hl.1 rfl (Nat.le_of_ble_eq_true rfl) dX8_slip_4 ⟨(Nat.zero_le _), (Nat.zero_le _)⟩ ?_
  refine lv_if_ne (tgt := 12) hx hb dX8_slip_7 (by decide) (fun c_7 => ?_) (fun c_7 => by exfalso; have c_7 := fWi_0 c_7; exact c_7 ⟨nI_pos' (by omega), nI_le (b := 100) (by omega) (by omega)⟩)
  have c_7 := fWi_1 c_7
  refine lv_aload_n hx hb dX8_slip_12 rfl (lv_at hl 0 rfl) ?_
  refine va_get (D := E.1) (ci := 8) (v := .ref gl) (C := RX8) (T := TX8) (N := 10) hx hb hts hinX8 hown hK hP 0 rfl rfl 4 (by decide) (hts (.fieldLink RX8 39 "WornRings" "lines" "LWornRings$Lines;") (by decide +kernel)) (fun _ h9 => h9) rfl dX8_slip_13 ?_
  refine va_getN (D := E.1) (host := "WornRings") (ref := "WornRings$Lines") (ci := 1) (v := .int (nI th)) (C := RX1) (T := TX1) (N := 4) hx hb hts hinX1 hown hK hP 1 rfl rfl 3 (by decide) (va_Nw.use rfl (hNN (.fieldLinkNest RX8 185 "WornRings$Lines" "thousandths" "I" "WornRings") (by decide +kernel))) (fun _ h9 => h9) rfl dX8_slip_16 ?_
  refine lv_istore_n (lv' := [(2, .int (nI th)), (0, .ref g0), (1, .int (nI ev))]) hx hb dX8_slip_19 rfl hl (by decide) rfl (fun ls hl => ?_)
  refine lv_aload_n hx hb dX8_slip_20 rfl (lv_at hl 1 rfl) ?_
  refine va_get (D := E.1) (ci := 8) (v := .ref gl) (C := RX8) (T := TX8) (N := 10) hx hb hts hinX8 hown hK hP 0 rfl rfl 4 (by decide) (hts (.fieldLink RX8 39 "WornRings" "lines" "LWornRings$Lines;") (by decide +kernel)) (fun _ h9 => h9) rfl dX8_slip_21 ?_
  refine lv_iload_n hx hb dX8_slip_24 rfl (lv_at hl 2 rfl) ?_
  refine va_putN (host := "WornRings") (ref := "WornRings$Lines") (D := E.1) (ci := 1) (v := .int (nI ev)) (ty := .int) (C := RX1) (T := TX1) (N := 4) hx hb hts hinX1 tyX1 tyX1_ok nmX1 hown hK hP hD hS 1 rfl rfl 3 (by decide) (va_Nw.use rfl (hNN (.fieldLinkNest RX8 185 "WornRings$Lines" "thousandths" "I" "WornRings") (by decide +kernel))) (fun _ h9 => h9) rfl (by decide +kernel) (rfl) (rfl) (Nat.le_of_ble_eq_true rfl) dX8_slip_25 (fun H locs hP hD hS => ?_)
  have hP : va_P E.1 vwCl [(g0, .inr (8, [.ref gm, .ref gk, .ref gs, .ref ga, .ref gl, .ref gh, .ref gd, .int wA, .int wB, .int wU])), (gl, .inr (1, [.ref a1, .ref a2, .int (nI n), .int (nI ev)])), (a1, .inl (E.2 1, 12, .inl To)), (a2, .inl (E.2 1, 12, .inl Bo)), (gh, .inr (0, [.ref an, .ref ae, .ref af, .ref ac, .int cd, .int tg, .int szz, .int ld]))] H := hP
  have hD : va_D A [(g0, .inr (8, [.ref gm, .ref gk, .ref gs, .ref ga, .ref gl, .ref gh, .ref gd, .int wA, .int wB, .int wU])), (gl, .inr (1, [.ref a1, .ref a2, .int (nI n), .int (nI ev)])), (a1, .inl (E.2 1, 12, .inl To)), (a2, .inl (E.2 1, 12, .inl Bo)), (gh, .inr (0, [.ref an, .ref ae, .ref af, .ref ac, .int cd, .int tg, .int szz, .int ld]))] := hD
  refine lv_aload_n hx hb dX8_slip_28 rfl (lv_at hl 1 rfl) ?_
  refine va_get (D := E.1) (ci := 8) (v := .ref gh) (C := RX8) (T := TX8) (N := 10) hx hb hts hinX8 hown hK hP 0 rfl rfl 5 (by decide) (hts (.fieldLink RX8 46 "WornRings" "fewestParts" "LWornRings$Heap;") (by decide +kernel)) (fun _ h9 => h9) rfl dX8_slip_29 ?_
  refine wVv (wr := [(g0, .inr (8, [.ref gm, .ref gk, .ref gs, .ref ga, .ref gl, .ref gh, .ref gd, .int wA, .int wB, .int wU])), (gl, .inr (1, [.ref a1, .ref a2, .int (nI n), .int (nI ev)])), (a1, .inl (E.2 1, 12, .inl To)), (a2, .inl (E.2 1, 12, .inl Bo))]) hE ⟨hx, hb, hml, hown, hts⟩ (c_X0_forget l E H.size gh an ae af ac cd tg szz ld ) (cwV 0 hts gX8_slip_X0_forget rfl rfl rfl (by decide +kernel) ⟨Nat.le_of_ble_eq_true rfl, Nat.le_of_ble_eq_true rfl⟩) hP hD hS hA [4] [0, 1, 2, 3] rfl rfl (by decide) (by decide) (by decide) 0 0 rfl rfl rfl hl.1 rfl (Nat.le_of_ble_eq_true rfl) dX8_slip_32 ⟨(Nat.zero_le _), (Nat.zero_le _)⟩ (fun u H locs hw hP hD hS => ?_)
  have hP : va_P E.1 vwCl [(g0, .inr (8, [.ref gm, .ref gk, .ref gs, .ref ga, .ref gl, .ref gh, .ref gd, .int wA, .int wB, .int wU])), (gl, .inr (1, [.ref a1, .ref a2, .int (nI n), .int (nI ev)])), (a1, .inl (E.2 1, 12, .inl To)), (a2, .inl (E.2 1, 12, .inl Bo)), (gh, .inr (0, [.ref an, .ref ae, .ref af, .ref ac, .int cd, .int tg, .int szz, .int 0]))] H := hP
  have hD : va_D A [(g0, .inr (8, [.ref gm, .ref gk, .ref gs, .ref ga, .ref gl, .ref gh, .ref gd, .int wA, .int wB, .int wU])), (gl, .inr (1, [.ref a1, .ref a2, .int (nI n), .int (nI ev)])), (a1, .inl (E.2 1, 12, .inl To)), (a2, .inl (E.2 1, 12, .inl Bo)), (gh, .inr (0, [.ref an, .ref ae, .ref af, .ref ac, .int cd, .int tg, .int szz, .int 0]))] := hD
  refine lv_iload_n hx hb dX8_slip_35 rfl (lv_at hl 0 rfl) ?_
  have hP9 : va_P E.1 vwCl [(g0, .inr (8, [.ref gm, .ref gk, .ref gs, .ref ga, .ref gl, .ref gh, .ref gd, .int wA, .int wB, .int wU])), (gl, .inr (1, [.ref a1, .ref a2, .int (nI n), .int (nI ev)])), (a1, .inl (E.2 1, 12, .inl To)), (a2, .inl (E.2 1, 12, .inl Bo)), (gh, .inr (0, [.ref an, .ref ae, .ref af, .ref ac, .int cd, .int tg, .int szz, .int 0]))] H := hP.sub [0, 1, 2, 3, 4] rfl
  have hD9 : va_D A [(g0, .inr (8, [.ref gm, .ref gk, .ref gs, .ref ga, .ref gl, .ref gh, .ref gd, .int wA, .int wB, .int wU])), (gl, .inr (1, [.ref a1, .ref a2, .int (nI n), .int (nI ev)])), (a1, .inl (E.2 1, 12, .inl To)), (a2, .inl (E.2 1, 12, .inl Bo)), (gh, .inr (0, [.ref an, .ref ae, .ref af, .ref ac, .int cd, .int tg, .int szz, .int 0]))] := hD.sub [0, 1, 2, 3, 4] (by decide) rfl
  exact W.iret (v := nI th) hx hb hr (fun t9 ht9 hW9 => ⟨⟨nI th, (), rfl, rfl, ⟨by rw [ht9]; exact hP9, hD9⟩⟩, hS.F ht9⟩) hS.2.2 dX8_slip_36
set_option maxHeartbeats 1000000 in
set_option maxRecDepth 100000 in
theorem c_X8_explains_no (l : Launch) (E : EnvT) (g0 : Nat) (gm : Nat) (gk : Nat) (gs : Nat) (ga : Nat) (gl : Nat) (gh : Nat) (gd : Nat) (wA : Int32) (wB : Int32) (wU : Int32) (aa : Nat) (ab : Nat) (ao : Nat) (ag : Nat) (ar : Nat) (sh : Nat) (rg : Nat) (fo : Nat → Option Nat) (fg : Nat → Option Nat) (fr : Nat → Option Nat) (nu : Int32) (hs1 : 1 ≤ sh) (hs4 : sh ≤ 4) (hr8 : rg ≤ 8) (hf : fFind fo fg fr sh rg nu = none) : Met l yX8_explains wsX8_explains ({ frames := 2, cells := 0, slots := 0, locals := 42 }) (va_Pc [.ref g0, .int nu] (PR E [(g0, .inr (8, [.ref gm, .ref gk, .ref gs, .ref ga, .ref gl, .ref gh, .ref gd, .int wA, .int wB, .int wU])), (gm, .inr (3, [.ref aa, .ref ab, .ref ao, .ref ag, .ref ar, .int (nI sh), .int (nI rg)])), (ao, .inl (E.2 4, 4, .inr (.inr (.inr (.inr fo))))), (ag, .inl (E.2 4, 4, .inr (.inr (.inr (.inr fg))))), (ar, .inl (E.2 4, 32, .inr (.inr (.inr (.inr fr)))))])) (vp_Si (fun r => r = -1)) 0 0 (fun _ => False) := by
  refine Met.ofW (cc := cX8_explains) (maxL := 3) (ret := (some .int)) (by decide +kernel) rfl ?_
  intro p e s m args below meth c s₁ B hml hv
  obtain ⟨rfl, hP, hE⟩ := hv
  have hx := B.exec
  have hb := B.bytes
  have hr := B.returns
  have hts := atoms_spec (ws := wsX8_explains) B.pre
  have hown : s.vm.findClass RX8 = some m.cls := findClass_of_methodNamed B.named
  have hlocks := B.notSynchronized
  have hK := hE.1
  have hNN := hE.2.1
  have hinX8 : ∀ w ∈ wsX80, w ∈ wsX8_explains := fun w h => List.mem_cons_of_mem _ (List.mem_append_left _ (List.mem_append_left _ (List.mem_append_left _ (List.mem_append_right _ h))))
  have hl := lv_entry ([.ref g0, .int nu]) (n := 3) (Nat.le_of_ble_eq_true rfl)
  rw [lg_entry_eq]
  generalize (lg_sl ([.ref g0, .int nu]) ++ List.replicate (3 - (lg_sl ([.ref g0, .int nu])).length) Slot.unset).toArray = ls at hl ⊢
  have hl : lv_has ls 3 [(0, .ref g0), (1, .int nu)] := hl
  refine lv_aload_n hx hb dX8_explains_0 rfl (lv_at hl 0 rfl) ?_
  refine va_get (D := E.1) (ci := 8) (v := .ref gm) (C := RX8) (T := TX8) (N := 10) hx hb hts hinX8 hown hK hP 0 rfl rfl 0 (by decide) (hts (.fieldLink RX8 12 "WornRings" "machine" "LWornRings$Machine;") (by decide +kernel)) (fun _ h9 => h9) rfl dX8_explains_1 ?_
  refine lv_iload_n hx hb dX8_explains_4 rfl (lv_at hl 1 rfl) ?_
  refine rVq hE ⟨hx, hb, hml, hown, hts⟩ (c_X3_find l E gm aa ab ao ag ar sh rg fo fg fr nu (hs1) (hs4) (hr8)) (cwV 1 hts gX8_explains_X3_find rfl rfl rfl (by decide +kernel) ⟨Nat.le_of_ble_eq_true rfl, Nat.le_of_ble_eq_true rfl⟩) (hP.sub [1, 2, 3, 4] rfl) 0 3 rfl rfl rfl hl.1 rfl (Nat.le_of_ble_eq_true rfl) dX8_explains_5 ⟨(Nat.zero_le _), (Nat.zero_le _)⟩ ?_
  rw [hf]
  refine W.eq (g2 := F0 m 8 ls [.null]) rfl ?_
  refine lv_astore_nN (lv' := [(2, .null), (0, .ref g0), (1, .int nu)]) hx hb dX8_explains_8 rfl hl (by decide) rfl (fun ls hl => ?_)
  refine lv_aload_nN hx hb dX8_explains_9 rfl (lv_at hl 0 rfl) ?_
  refine lv_ifnonnullN hx hb dX8_explains_10 ?_
  refine lv_iconst (v := (-1)) hx hb dX8_explains_13 (by decide) ?_
  refine lv_goto (tgt := 25) hx hb dX8_explains_14 (by decide) ?_
  exact W.iret (v := (-1)) hx hb hr (fun t9 ht9 hW9 => ⟨(-1), rfl, rfl, ht9⟩) (fun _ h => absurd h List.not_mem_nil) dX8_explains_25
set_option maxHeartbeats 1000000 in
set_option maxRecDepth 100000 in
theorem c_X8_named_no (l : Launch) (E : EnvT) (g0 : Nat) (gm : Nat) (gk : Nat) (gs : Nat) (ga : Nat) (gl : Nat) (gh : Nat) (gd : Nat) (wA : Int32) (wB : Int32) (wU : Int32) (aa : Nat) (ab : Nat) (ao : Nat) (ag : Nat) (ar : Nat) (sh : Nat) (rg : Nat) (fo : Nat → Option Nat) (fg : Nat → Option Nat) (fr : Nat → Option Nat) (nu : Int32) (hs1 : 1 ≤ sh) (hs4 : sh ≤ 4) (hr8 : rg ≤ 8) (hf : fFind fo fg fr sh rg nu = none) : Met l yX8_named wsX8_named ({ frames := 2, cells := 0, slots := 0, locals := 42 }) (va_Pc [.ref g0, .int nu] (PR E [(g0, .inr (8, [.ref gm, .ref gk, .ref gs, .ref ga, .ref gl, .ref gh, .ref gd, .int wA, .int wB, .int wU])), (gm, .inr (3, [.ref aa, .ref ab, .ref ao, .ref ag, .ref ar, .int (nI sh), .int (nI rg)])), (ao, .inl (E.2 4, 4, .inr (.inr (.inr (.inr fo))))), (ag, .inl (E.2 4, 4, .inr (.inr (.inr (.inr fg))))), (ar, .inl (E.2 4, 32, .inr (.inr (.inr (.inr fr)))))])) (vp_Si (fun r => r = -1)) 0 0 (fun _ => False) := by
  refine Met.ofW (cc := cX8_named) (maxL := 3) (ret := (some .int)) (by decide +kernel) rfl ?_
  intro p e s m args below meth c s₁ B hml hv
  obtain ⟨rfl, hP, hE⟩ := hv
  have hx := B.exec
  have hb := B.bytes
  have hr := B.returns
  have hts := atoms_spec (ws := wsX8_named) B.pre
  have hown : s.vm.findClass RX8 = some m.cls := findClass_of_methodNamed B.named
  have hlocks := B.notSynchronized
  have hK := hE.1
  have hNN := hE.2.1
  have hinX8 : ∀ w ∈ wsX80, w ∈ wsX8_named := fun w h => List.mem_cons_of_mem _ (List.mem_append_left _ (List.mem_append_left _ (List.mem_append_left _ (List.mem_append_right _ h))))
  have hl := lv_entry ([.ref g0, .int nu]) (n := 3) (Nat.le_of_ble_eq_true rfl)
  rw [lg_entry_eq]
  generalize (lg_sl ([.ref g0, .int nu]) ++ List.replicate (3 - (lg_sl ([.ref g0, .int nu])).length) Slot.unset).toArray = ls at hl ⊢
  have hl : lv_has ls 3 [(0, .ref g0), (1, .int nu)] := hl
  refine lv_aload_n hx hb dX8_named_0 rfl (lv_at hl 0 rfl) ?_
  refine va_get (D := E.1) (ci := 8) (v := .ref gm) (C := RX8) (T := TX8) (N := 10) hx hb hts hinX8 hown hK hP 0 rfl rfl 0 (by decide) (hts (.fieldLink RX8 12 "WornRings" "machine" "LWornRings$Machine;") (by decide +kernel)) (fun _ h9 => h9) rfl dX8_named_1 ?_
  refine lv_iload_n hx hb dX8_named_4 rfl (lv_at hl 1 rfl) ?_
  refine rVq hE ⟨hx, hb, hml, hown, hts⟩ (c_X3_find l E gm aa ab ao ag ar sh rg fo fg fr nu (hs1) (hs4) (hr8)) (cwV 1 hts gX8_named_X3_find rfl rfl rfl (by decide +kernel) ⟨Nat.le_of_ble_eq_true rfl, Nat.le_of_ble_eq_true rfl⟩) (hP.sub [1, 2, 3, 4] rfl) 0 3 rfl rfl rfl hl.1 rfl (Nat.le_of_ble_eq_true rfl) dX8_named_5 ⟨(Nat.zero_le _), (Nat.zero_le _)⟩ ?_
  rw [hf]
  refine W.eq (g2 := F0 m 8 ls [.null]) rfl ?_
  refine lv_astore_nN (lv' := [(2, .null), (0, .ref g0), (1, .int nu)]) hx hb dX8_named_8 rfl hl (by decide) rfl (fun ls hl => ?_)
  refine lv_aload_nN hx hb dX8_named_9 rfl (lv_at hl 0 rfl) ?_
  refine lv_ifnonnullN hx hb dX8_named_10 ?_
  refine lv_iconst (v := (-1)) hx hb dX8_named_13 (by decide) ?_
  exact W.iret (v := (-1)) hx hb hr (fun t9 ht9 hW9 => ⟨(-1), rfl, rfl, ht9⟩) (fun _ h => absurd h List.not_mem_nil) dX8_named_14
set_option maxHeartbeats 1000000 in
set_option maxRecDepth 100000 in
theorem c_X8_explains_yes (l : Launch) (E : EnvT) (g0 : Nat) (gm : Nat) (gk : Nat) (gs : Nat) (ga : Nat) (gl : Nat) (gh : Nat) (gd : Nat) (wA : Int32) (wB : Int32) (wU : Int32) (aa : Nat) (ab : Nat) (ao : Nat) (ag : Nat) (ar : Nat) (sh : Nat) (rg : Nat) (fo : Nat → Option Nat) (fg : Nat → Option Nat) (fr : Nat → Option Nat) (a1 : Nat) (a2 : Nat) (n : Nat) (th : Nat) (To : Nat → Int32) (Bo : Nat → Int32) (h1 : Nat) (kd : Int32) (se : Int32) (ua : Nat) (da : Nat) (pn : Nat) (Fa : Nat → Nat) (Fb : Nat → Nat) (nu : Int32) (hs1 : 1 ≤ sh) (hs4 : sh ≤ 4) (hr8 : rg ≤ 8) (hf : fFind fo fg fr sh rg nu = some h1) (hn : n ≤ 12) (hth : th ≤ 100) (hpn : pn ≤ 3) : Met l yX8_explains wsX8_explains ({ frames := 3, cells := 0, slots := 0, locals := 74 }) (va_Pc [.ref g0, .int nu] (PR E [(g0, .inr (8, [.ref gm, .ref gk, .ref gs, .ref ga, .ref gl, .ref gh, .ref gd, .int wA, .int wB, .int wU])), (gm, .inr (3, [.ref aa, .ref ab, .ref ao, .ref ag, .ref ar, .int (nI sh), .int (nI rg)])), (ao, .inl (E.2 4, 4, .inr (.inr (.inr (.inr fo))))), (ag, .inl (E.2 4, 4, .inr (.inr (.inr (.inr fg))))), (ar, .inl (E.2 4, 32, .inr (.inr (.inr (.inr fr))))), (gl, .inr (1, [.ref a1, .ref a2, .int (nI n), .int (nI th)])), (a1, .inl (E.2 1, 12, .inl To)), (a2, .inl (E.2 1, 12, .inl Bo)), (h1, .inr (6, [.int kd, .int se, .ref ua, .ref da, .int (nI pn)])), (ua, .inl (E.2 2, 3, .inr (.inl (lA Fa)))), (da, .inl (E.2 2, 3, .inr (.inl (lA Fb))))])) (vp_Si (fun r => r = nI (expN To Bo th n (lA Fa) (lA Fb) pn))) 0 0 (fun _ => False) := by
  refine Met.ofW (cc := cX8_explains) (maxL := 3) (ret := (some .int)) (by decide +kernel) rfl ?_
  intro p e s m args below meth c s₁ B hml hv
  obtain ⟨rfl, hP, hE⟩ := hv
  have hx := B.exec
  have hb := B.bytes
  have hr := B.returns
  have hts := atoms_spec (ws := wsX8_explains) B.pre
  have hown : s.vm.findClass RX8 = some m.cls := findClass_of_methodNamed B.named
  have hlocks := B.notSynchronized
  have hK := hE.1
  have hNN := hE.2.1
  have hinX8 : ∀ w ∈ wsX80, w ∈ wsX8_explains := fun w h => List.mem_cons_of_mem _ (List.mem_append_left _ (List.mem_append_left _ (List.mem_append_left _ (List.mem_append_right _ h))))
  have hl := lv_entry ([.ref g0, .int nu]) (n := 3) (Nat.le_of_ble_eq_true rfl)
  rw [lg_entry_eq]
  generalize (lg_sl ([.ref g0, .int nu]) ++ List.replicate (3 - (lg_sl ([.ref g0, .int nu])).length) Slot.unset).toArray = ls at hl ⊢
  have hl : lv_has ls 3 [(0, .ref g0), (1, .int nu)] := hl
  refine lv_aload_n hx hb dX8_explains_0 rfl (lv_at hl 0 rfl) ?_
  refine va_get (D := E.1) (ci := 8) (v := .ref gm) (C := RX8) (T := TX8) (N := 10) hx hb hts hinX8 hown hK hP 0 rfl rfl 0 (by decide) (hts (.fieldLink RX8 12 "WornRings" "machine" "LWornRings$Machine;") (by decide +kernel)) (fun _ h9 => h9) rfl dX8_explains_1 ?_
  refine lv_iload_n hx hb dX8_explains_4 rfl (lv_at hl 1 rfl) ?_
  refine rVq hE ⟨hx, hb, hml, hown, hts⟩ (c_X3_find l E gm aa ab ao ag ar sh rg fo fg fr nu (hs1) (hs4) (hr8)) (cwV 1 hts gX8_explains_X3_find rfl rfl rfl (by decide +kernel) ⟨Nat.le_of_ble_eq_true rfl, Nat.le_of_ble_eq_true rfl⟩) (hP.sub [1, 2, 3, 4] rfl) 0 3 rfl rfl rfl hl.1 rfl (Nat.le_of_ble_eq_true rfl) dX8_explains_5 ⟨(Nat.zero_le _), (Nat.zero_le _)⟩ ?_
  rw [hf]
  refine W.eq (g2 := F0 m 8 ls [.ref h1]) rfl ?_
  refine lv_astore_n (lv' := [(2, .ref h1), (0, .ref g0), (1, .int nu)]) hx hb dX8_explains_8 rfl hl (by decide) rfl (fun ls hl => ?_)
  refine lv_aload_n hx hb dX8_explains_9 rfl (lv_at hl 0 rfl) ?_
  refine lv_ifnonnull (tgt := 17) hx hb dX8_explains_10 (by decide) ?_
  refine lv_aload_n hx hb dX8_explains_17 rfl (lv_at hl 1 rfl) ?_
  refine va_get (D := E.1) (ci := 8) (v := .ref gl) (C := RX8) (T := TX8) (N := 10) hx hb hts hinX8 hown hK hP 0 rfl rfl 4 (by decide) (hts (.fieldLink RX8 39 "WornRings" "lines" "LWornRings$Lines;") (by decide +kernel)) (fun _ h9 => h9) rfl dX8_explains_18 ?_
  refine lv_aload_n hx hb dX8_explains_21 rfl (lv_at hl 0 rfl) ?_
  refine rVi hE ⟨hx, hb, hml, hown, hts⟩ (c_X1_explainedBy l E gl a1 a2 n th To Bo h1 kd se ua da pn (lA Fa) (lA Fb) (hn) (hth) (hpn)) (cwV 1 hts gX8_explains_X1_explainedBy rfl rfl rfl (by decide +kernel) ⟨Nat.le_of_ble_eq_true rfl, Nat.le_of_ble_eq_true rfl⟩) (hP.sub [5, 6, 7, 8, 9, 10] rfl) 0 1 rfl rfl rfl hl.1 rfl (Nat.le_of_ble_eq_true rfl) dX8_explains_22 ⟨(Nat.zero_le _), (Nat.zero_le _)⟩ ?_
  exact W.iret (v := nI (expN To Bo th n (lA Fa) (lA Fb) pn)) hx hb hr (fun t9 ht9 hW9 => ⟨nI (expN To Bo th n (lA Fa) (lA Fb) pn), rfl, rfl, ht9⟩) (fun _ h => absurd h List.not_mem_nil) dX8_explains_25
set_option maxHeartbeats 1000000 in
set_option maxRecDepth 100000 in
theorem c_X8_named_yes (l : Launch) (E : EnvT) (g0 : Nat) (gm : Nat) (gk : Nat) (gs : Nat) (ga : Nat) (gl : Nat) (gh : Nat) (gd : Nat) (wA : Int32) (wB : Int32) (wU : Int32) (aa : Nat) (ab : Nat) (ao : Nat) (ag : Nat) (ar : Nat) (sh : Nat) (rg : Nat) (fo : Nat → Option Nat) (fg : Nat → Option Nat) (fr : Nat → Option Nat) (a1 : Nat) (a2 : Nat) (n : Nat) (th : Nat) (To : Nat → Int32) (Bo : Nat → Int32) (h1 : Nat) (kd : Int32) (se : Int32) (ua : Nat) (da : Nat) (pn : Nat) (Fa : Nat → Nat) (Fb : Nat → Nat) (nu : Int32) (hs1 : 1 ≤ sh) (hs4 : sh ≤ 4) (hr8 : rg ≤ 8) (hf : fFind fo fg fr sh rg nu = some h1) (hn : n ≤ 12) (hth : th ≤ 100) (hpn : pn ≤ 3) : Met l yX8_named wsX8_named ({ frames := 3, cells := 0, slots := 0, locals := 73 }) (va_Pc [.ref g0, .int nu] (PR E [(g0, .inr (8, [.ref gm, .ref gk, .ref gs, .ref ga, .ref gl, .ref gh, .ref gd, .int wA, .int wB, .int wU])), (gm, .inr (3, [.ref aa, .ref ab, .ref ao, .ref ag, .ref ar, .int (nI sh), .int (nI rg)])), (ao, .inl (E.2 4, 4, .inr (.inr (.inr (.inr fo))))), (ag, .inl (E.2 4, 4, .inr (.inr (.inr (.inr fg))))), (ar, .inl (E.2 4, 32, .inr (.inr (.inr (.inr fr))))), (gl, .inr (1, [.ref a1, .ref a2, .int (nI n), .int (nI th)])), (a1, .inl (E.2 1, 12, .inl To)), (a2, .inl (E.2 1, 12, .inl Bo)), (h1, .inr (6, [.int kd, .int se, .ref ua, .ref da, .int (nI pn)])), (ua, .inl (E.2 2, 3, .inr (.inl (lA Fa)))), (da, .inl (E.2 2, 3, .inr (.inl (lA Fb))))])) (vp_Si (fun r => r = if allS To Bo th n (lA Fa) (lA Fb) pn = true then 1 else 0)) 0 0 (fun _ => False) := by
  refine Met.ofW (cc := cX8_named) (maxL := 3) (ret := (some .int)) (by decide +kernel) rfl ?_
  intro p e s m args below meth c s₁ B hml hv
  obtain ⟨rfl, hP, hE⟩ := hv
  have hx := B.exec
  have hb := B.bytes
  have hr := B.returns
  have hts := atoms_spec (ws := wsX8_named) B.pre
  have hown : s.vm.findClass RX8 = some m.cls := findClass_of_methodNamed B.named
  have hlocks := B.notSynchronized
  have hK := hE.1
  have hNN := hE.2.1
  have hinX8 : ∀ w ∈ wsX80, w ∈ wsX8_named := fun w h => List.mem_cons_of_mem _ (List.mem_append_left _ (List.mem_append_left _ (List.mem_append_left _ (List.mem_append_right _ h))))
  have hl := lv_entry ([.ref g0, .int nu]) (n := 3) (Nat.le_of_ble_eq_true rfl)
  rw [lg_entry_eq]
  generalize (lg_sl ([.ref g0, .int nu]) ++ List.replicate (3 - (lg_sl ([.ref g0, .int nu])).length) Slot.unset).toArray = ls at hl ⊢
  have hl : lv_has ls 3 [(0, .ref g0), (1, .int nu)] := hl
  refine lv_aload_n hx hb dX8_named_0 rfl (lv_at hl 0 rfl) ?_
  refine va_get (D := E.1) (ci := 8) (v := .ref gm) (C := RX8) (T := TX8) (N := 10) hx hb hts hinX8 hown hK hP 0 rfl rfl 0 (by decide) (hts (.fieldLink RX8 12 "WornRings" "machine" "LWornRings$Machine;") (by decide +kernel)) (fun _ h9 => h9) rfl dX8_named_1 ?_
  refine lv_iload_n hx hb dX8_named_4 rfl (lv_at hl 1 rfl) ?_
  refine rVq hE ⟨hx, hb, hml, hown, hts⟩ (c_X3_find l E gm aa ab ao ag ar sh rg fo fg fr nu (hs1) (hs4) (hr8)) (cwV 1 hts gX8_named_X3_find rfl rfl rfl (by decide +kernel) ⟨Nat.le_of_ble_eq_true rfl, Nat.le_of_ble_eq_true rfl⟩) (hP.sub [1, 2, 3, 4] rfl) 0 3 rfl rfl rfl hl.1 rfl (Nat.le_of_ble_eq_true rfl) dX8_named_5 ⟨(Nat.zero_le _), (Nat.zero_le _)⟩ ?_
  rw [hf]
  refine W.eq (g2 := F0 m 8 ls [.ref h1]) rfl ?_
  refine lv_astore_n (lv' := [(2, .ref h1), (0, .ref g0), (1, .int nu)]) hx hb dX8_named_8 rfl hl (by decide) rfl (fun ls hl => ?_)
  refine lv_aload_n hx hb dX8_named_9 rfl (lv_at hl 0 rfl) ?_
  refine lv_ifnonnull (tgt := 15) hx hb dX8_named_10 (by decide) ?_
  refine lv_aload_n hx hb dX8_named_15 rfl (lv_at hl 1 rfl) ?_
  refine va_get (D := E.1) (ci := 8) (v := .ref gl) (C := RX8) (T := TX8) (N := 10) hx hb hts hinX8 hown hK hP 0 rfl rfl 4 (by decide) (hts (.fieldLink RX8 39 "WornRings" "lines" "LWornRings$Lines;") (by decide +kernel)) (fun _ h9 => h9) rfl dX8_named_16 ?_
  refine lv_aload_n hx hb dX8_named_19 rfl (lv_at hl 0 rfl) ?_
  refine rVi hE ⟨hx, hb, hml, hown, hts⟩ (c_X1_allTonesSeen l E gl a1 a2 n th To Bo h1 kd se ua da pn (lA Fa) (lA Fb) (hn) (hth) (hpn)) (cwV 1 hts gX8_named_X1_allTonesSeen rfl rfl rfl (by decide +kernel) ⟨Nat.le_of_ble_eq_true rfl, Nat.le_of_ble_eq_true rfl⟩) (hP.sub [5, 6, 7, 8, 9, 10] rfl) 0 1 rfl rfl rfl hl.1 rfl (Nat.le_of_ble_eq_true rfl) dX8_named_20 ⟨(Nat.zero_le _), (Nat.zero_le _)⟩ ?_
  refine lv_if_eq (tgt := 30) hx hb dX8_named_23 (by decide) (fun c_23 => ?_) (fun c_23 => ?_)
  · have c_23 := ite1_0 c_23
    refine lv_iconst (v := 0) hx hb dX8_named_30 (by decide) ?_
    exact W.iret (v := 0) hx hb hr (fun t9 ht9 hW9 => ⟨0, rfl, by first | exact (if_pos c_23).symm | exact (if_neg c_23).symm, ht9⟩) (fun _ h => absurd h List.not_mem_nil) dX8_named_31
  · have c_23 := ite1_1 c_23
    refine lv_iconst (v := 1) hx hb dX8_named_26 (by decide) ?_
    refine lv_goto (tgt := 31) hx hb dX8_named_27 (by decide) ?_
    exact W.iret (v := 1) hx hb hr (fun t9 ht9 hW9 => ⟨1, rfl, by first | exact (if_pos c_23).symm | exact (if_neg c_23).symm, ht9⟩) (fun _ h => absurd h List.not_mem_nil) dX8_named_31
set_option maxHeartbeats 1000000 in
set_option maxRecDepth 100000 in
theorem c_X8_heap_no (l : Launch) (E : EnvT) (sz : Nat) (g0 : Nat) (gm : Nat) (gk : Nat) (gs : Nat) (ga : Nat) (gl : Nat) (gh : Nat) (gd : Nat) (wA : Int32) (wB : Int32) (wU : Int32) (an : Nat) (ae : Nat) (af : Nat) (ac : Nat) (cd : Int32) (tg : Int32) (R : List Nat) (ld : Int32) (Ch : Nat → Nat) (iv : Int32) (hld : ¬ ld = 0) (hR : RLs Ch R) (hR12 : R.length ≤ 12) : Met l yX8_heap wsX8_heap ({ frames := 1, cells := 0, slots := 0, locals := 22 }) (va_Pc [.ref g0, .int iv] (PW E [(g0, .inr (8, [.ref gm, .ref gk, .ref gs, .ref ga, .ref gl, .ref gh, .ref gd, .int wA, .int wB, .int wU])), (gh, .inr (0, [.ref an, .ref ae, .ref af, .ref ac, .int cd, .int tg, .int (nI R.length), .int ld])), (ac, .inl (E.2 1, 12, .inl (nA Ch)))] sz)) (va_Qi (fun (r : Int32) (uu : Unit) => r = fHp R iv) (fun (uu : Unit) t => BW E (va_A [(g0, .inr (8, [.ref gm, .ref gk, .ref gs, .ref ga, .ref gl, .ref gh, .ref gd, .int wA, .int wB, .int wU])), (gh, .inr (0, [.ref an, .ref ae, .ref af, .ref ac, .int cd, .int tg, .int (nI R.length), .int ld])), (ac, .inl (E.2 1, 12, .inl (nA Ch)))] sz) [(g0, .inr (8, [.ref gm, .ref gk, .ref gs, .ref ga, .ref gl, .ref gh, .ref gd, .int wA, .int wB, .int wU])), (gh, .inr (0, [.ref an, .ref ae, .ref af, .ref ac, .int cd, .int tg, .int (nI R.length), .int ld])), (ac, .inl (E.2 1, 12, .inl (nA Ch)))] t) (va_A [(g0, .inr (8, [.ref gm, .ref gk, .ref gs, .ref ga, .ref gl, .ref gh, .ref gd, .int wA, .int wB, .int wU])), (gh, .inr (0, [.ref an, .ref ae, .ref af, .ref ac, .int cd, .int tg, .int (nI R.length), .int ld])), (ac, .inl (E.2 1, 12, .inl (nA Ch)))] sz)) 0 0 (va_A [(g0, .inr (8, [.ref gm, .ref gk, .ref gs, .ref ga, .ref gl, .ref gh, .ref gd, .int wA, .int wB, .int wU])), (gh, .inr (0, [.ref an, .ref ae, .ref af, .ref ac, .int cd, .int tg, .int (nI R.length), .int ld])), (ac, .inl (E.2 1, 12, .inl (nA Ch)))] sz) := by
  refine Met.ofW (cc := cX8_heap) (maxL := 2) (ret := (some .int)) (by decide +kernel) rfl ?_
  intro p e s m args below meth c s₁ B hml hv
  obtain ⟨rfl, hsz, hP, hE, hD0⟩ := hv
  have hx := B.exec
  have hb := B.bytes
  have hr := B.returns
  have hts := atoms_spec (ws := wsX8_heap) B.pre
  have hown : s.vm.findClass RX8 = some m.cls := findClass_of_methodNamed B.named
  have hlocks := B.notSynchronized
  have hK := hE.1
  have hNN := hE.2.1
  have hinX8 : ∀ w ∈ wsX80, w ∈ wsX8_heap := fun w h => List.mem_cons_of_mem _ (List.mem_append_left _ (List.mem_append_left _ (List.mem_append_left _ (List.mem_append_left _ (List.mem_append_right _ h)))))
  have hinX0 : ∀ w ∈ wsX00, w ∈ wsX8_heap := fun w h => List.mem_cons_of_mem _ (List.mem_append_left _ (List.mem_append_left _ (List.mem_append_left _ (List.mem_append_right _ h))))
  subst hsz
  have hD := hD0.self (sz := s.heap.size)
  generalize hAe : va_A [(g0, .inr (8, [.ref gm, .ref gk, .ref gs, .ref ga, .ref gl, .ref gh, .ref gd, .int wA, .int wB, .int wU])), (gh, .inr (0, [.ref an, .ref ae, .ref af, .ref ac, .int cd, .int tg, .int (nI R.length), .int ld])), (ac, .inl (E.2 1, 12, .inl (nA Ch)))] s.heap.size = A at hD ⊢
  have hA : ∀ q : Nat, s.heap.size ≤ q → A q := fun q h => by rw [← hAe]; exact Or.inr h
  have hS : va_S A s.heap s.heap [] := va_S.rf
  have hl := lv_entry ([.ref g0, .int iv]) (n := 2) (Nat.le_of_ble_eq_true rfl)
  rw [lg_entry_eq]
  generalize (lg_sl ([.ref g0, .int iv]) ++ List.replicate (2 - (lg_sl ([.ref g0, .int iv])).length) Slot.unset).toArray = ls at hl ⊢
  have hl : lv_has ls 2 [(0, .ref g0), (1, .int iv)] := hl
  refine lv_aload_n hx hb dX8_heap_0 rfl (lv_at hl 0 rfl) ?_
  refine va_get (D := E.1) (ci := 8) (v := .ref gh) (C := RX8) (T := TX8) (N := 10) hx hb hts hinX8 hown hK hP 0 rfl rfl 5 (by decide) (hts (.fieldLink RX8 46 "WornRings" "fewestParts" "LWornRings$Heap;") (by decide +kernel)) (fun _ h9 => h9) rfl dX8_heap_1 ?_
  refine lv_aload_n hx hb dX8_heap_4 rfl (lv_at hl 0 rfl) ?_
  refine va_get (D := E.1) (ci := 8) (v := .ref gm) (C := RX8) (T := TX8) (N := 10) hx hb hts hinX8 hown hK hP 0 rfl rfl 0 (by decide) (hts (.fieldLink RX8 12 "WornRings" "machine" "LWornRings$Machine;") (by decide +kernel)) (fun _ h9 => h9) rfl dX8_heap_5 ?_
  refine lv_aload_n hx hb dX8_heap_8 rfl (lv_at hl 0 rfl) ?_
  refine va_get (D := E.1) (ci := 8) (v := .ref gl) (C := RX8) (T := TX8) (N := 10) hx hb hts hinX8 hown hK hP 0 rfl rfl 4 (by decide) (hts (.fieldLink RX8 39 "WornRings" "lines" "LWornRings$Lines;") (by decide +kernel)) (fun _ h9 => h9) rfl dX8_heap_9 ?_
  refine wVv (wr := [(g0, .inr (8, [.ref gm, .ref gk, .ref gs, .ref ga, .ref gl, .ref gh, .ref gd, .int wA, .int wB, .int wU])), (ac, .inl (E.2 1, 12, .inl (nA Ch)))]) hE ⟨hx, hb, hml, hown, hts⟩ (c_X0_layDown_no l E s.heap.size gh an ae af ac cd tg (nI R.length) ld gm gl (hld)) (cwV 2 hts gX8_heap_X0_layDown rfl rfl rfl (by decide +kernel) ⟨Nat.le_of_ble_eq_true rfl, Nat.le_of_ble_eq_true rfl⟩) hP hD hS hA [1] [0, 2] rfl rfl (by decide) (by decide) (by decide) 0 0 rfl rfl rfl hl.1 rfl (Nat.le_of_ble_eq_true rfl) dX8_heap_12 ⟨(Nat.zero_le _), (Nat.zero_le _)⟩ (fun u H locs hw hP hD hS => ?_)
  have hP : va_P E.1 vwCl [(g0, .inr (8, [.ref gm, .ref gk, .ref gs, .ref ga, .ref gl, .ref gh, .ref gd, .int wA, .int wB, .int wU])), (ac, .inl (E.2 1, 12, .inl (nA Ch))), (gh, .inr (0, [.ref an, .ref ae, .ref af, .ref ac, .int cd, .int tg, .int (nI R.length), .int ld]))] H := hP
  have hD : va_D A [(g0, .inr (8, [.ref gm, .ref gk, .ref gs, .ref ga, .ref gl, .ref gh, .ref gd, .int wA, .int wB, .int wU])), (ac, .inl (E.2 1, 12, .inl (nA Ch))), (gh, .inr (0, [.ref an, .ref ae, .ref af, .ref ac, .int cd, .int tg, .int (nI R.length), .int ld]))] := hD
  refine lv_iload_n hx hb dX8_heap_15 rfl (lv_at hl 1 rfl) ?_
  refine lv_iconst (v := (-1)) hx hb dX8_heap_16 (by decide) ?_
  refine lv_icmp_ne (tgt := 28) hx hb dX8_heap_17 (by decide) (fun c_17 => ?_) (fun c_17 => ?_)
  · refine lv_iload_n hx hb dX8_heap_28 rfl (lv_at hl 1 rfl) ?_
    refine lv_iconst (v := 0) hx hb dX8_heap_29 (by decide) ?_
    refine lv_aload_n hx hb dX8_heap_30 rfl (lv_at hl 0 rfl) ?_
    refine va_get (D := E.1) (ci := 8) (v := .ref gh) (C := RX8) (T := TX8) (N := 10) hx hb hts hinX8 hown hK hP 0 rfl rfl 5 (by decide) (hts (.fieldLink RX8 46 "WornRings" "fewestParts" "LWornRings$Heap;") (by decide +kernel)) (fun _ h9 => h9) rfl dX8_heap_31 ?_
    refine va_getN (D := E.1) (host := "WornRings") (ref := "WornRings$Heap") (ci := 0) (v := .int (nI R.length)) (C := RX0) (T := TX0) (N := 8) hx hb hts hinX0 hown hK hP 2 rfl rfl 6 (by decide) (va_Nw.use rfl (hNN (.fieldLinkNest RX8 200 "WornRings$Heap" "size" "I" "WornRings") (by decide +kernel))) (fun _ h9 => h9) rfl dX8_heap_34 ?_
    refine lv_iconst (v := 1) hx hb dX8_heap_37 (by decide) ?_
    refine lv_isub hx hb dX8_heap_38 ?_
    refine rSi hE ⟨hx, hb, hml, hown, hts⟩ (c_X8_within l E iv 0 ((nI R.length) - 1) ) (va_cwS 3 hts gX8_heap_X8_within rfl rfl rfl (by decide +kernel) ⟨Nat.le_of_ble_eq_true rfl, Nat.le_of_ble_eq_true rfl⟩) (hP.sub [] rfl) rfl hl.1 rfl (Nat.le_of_ble_eq_true rfl) dX8_heap_39 ⟨(Nat.zero_le _), (Nat.zero_le _)⟩ ?_
    refine lv_if_eq (tgt := 57) hx hb dX8_heap_42 (by decide) (fun c_42 => ?_) (fun c_42 => ?_)
    · have c_42 := fWi_0 c_42
      refine lv_iconst (v := (-1)) hx hb dX8_heap_57 (by decide) ?_
      have hP9 : va_P E.1 vwCl [(g0, .inr (8, [.ref gm, .ref gk, .ref gs, .ref ga, .ref gl, .ref gh, .ref gd, .int wA, .int wB, .int wU])), (gh, .inr (0, [.ref an, .ref ae, .ref af, .ref ac, .int cd, .int tg, .int (nI R.length), .int ld])), (ac, .inl (E.2 1, 12, .inl (nA Ch)))] H := hP.sub [0, 2, 1] rfl
      have hD9 : va_D A [(g0, .inr (8, [.ref gm, .ref gk, .ref gs, .ref ga, .ref gl, .ref gh, .ref gd, .int wA, .int wB, .int wU])), (gh, .inr (0, [.ref an, .ref ae, .ref af, .ref ac, .int cd, .int tg, .int (nI R.length), .int ld])), (ac, .inl (E.2 1, 12, .inl (nA Ch)))] := hD.sub [0, 2, 1] (by decide) rfl
      exact W.iret (v := (-1)) hx hb hr (fun t9 ht9 hW9 => ⟨⟨(-1), (), rfl, by first | (rw [fHp, if_neg c_17, if_neg c_42]; done) | (rw [fHp, if_neg c_17, if_pos c_42, nI_clamp (by omega), ← hR j hj9]; done), ⟨by rw [ht9]; exact hP9, hD9⟩⟩, hS.F ht9⟩) hS.2.2 dX8_heap_58
    · have c_42 := fWi_1 c_42
      obtain ⟨j, hj9, rfl⟩ := ix_of (by omega) c_42.1 c_42.2
      refine lv_aload_n hx hb dX8_heap_45 rfl (lv_at hl 0 rfl) ?_
      refine va_get (D := E.1) (ci := 8) (v := .ref gh) (C := RX8) (T := TX8) (N := 10) hx hb hts hinX8 hown hK hP 0 rfl rfl 5 (by decide) (hts (.fieldLink RX8 46 "WornRings" "fewestParts" "LWornRings$Heap;") (by decide +kernel)) (fun _ h9 => h9) rfl dX8_heap_46 ?_
      refine va_getN (D := E.1) (host := "WornRings") (ref := "WornRings$Heap") (ci := 0) (v := .ref ac) (C := RX0) (T := TX0) (N := 8) hx hb hts hinX0 hown hK hP 2 rfl rfl 3 (by decide) (va_Nw.use rfl (hNN (.fieldLinkNest RX8 203 "WornRings$Heap" "chosen" "[I" "WornRings") (by decide +kernel))) (fun _ h9 => h9) rfl dX8_heap_49 ?_
      refine lv_iload_n hx hb dX8_heap_52 rfl (lv_at hl 1 rfl) ?_
      refine va_iald hx hb hK hP 1 1 rfl rfl (vp_in_nI (by omega) (by omega)) dX8_heap_53 ?_
      rw [nI_clamp (n := j) (by omega)]
      refine W.eq (g2 := F0 m 54 ls [.int (nI (Ch j))]) rfl ?_
      refine lv_goto (tgt := 58) hx hb dX8_heap_54 (by decide) ?_
      have hP9 : va_P E.1 vwCl [(g0, .inr (8, [.ref gm, .ref gk, .ref gs, .ref ga, .ref gl, .ref gh, .ref gd, .int wA, .int wB, .int wU])), (gh, .inr (0, [.ref an, .ref ae, .ref af, .ref ac, .int cd, .int tg, .int (nI R.length), .int ld])), (ac, .inl (E.2 1, 12, .inl (nA Ch)))] H := hP.sub [0, 2, 1] rfl
      have hD9 : va_D A [(g0, .inr (8, [.ref gm, .ref gk, .ref gs, .ref ga, .ref gl, .ref gh, .ref gd, .int wA, .int wB, .int wU])), (gh, .inr (0, [.ref an, .ref ae, .ref af, .ref ac, .int cd, .int tg, .int (nI R.length), .int ld])), (ac, .inl (E.2 1, 12, .inl (nA Ch)))] := hD.sub [0, 2, 1] (by decide) rfl
      exact W.iret (v := nI (Ch j)) hx hb hr (fun t9 ht9 hW9 => ⟨⟨nI (Ch j), (), rfl, by first | (rw [fHp, if_neg c_17, if_neg c_42]; done) | (rw [fHp, if_neg c_17, if_pos c_42, nI_clamp (by omega), ← hR j hj9]; done), ⟨by rw [ht9]; exact hP9, hD9⟩⟩, hS.F ht9⟩) hS.2.2 dX8_heap_58
  · refine lv_aload_n hx hb dX8_heap_20 rfl (lv_at hl 0 rfl) ?_
    refine va_get (D := E.1) (ci := 8) (v := .ref gh) (C := RX8) (T := TX8) (N := 10) hx hb hts hinX8 hown hK hP 0 rfl rfl 5 (by decide) (hts (.fieldLink RX8 46 "WornRings" "fewestParts" "LWornRings$Heap;") (by decide +kernel)) (fun _ h9 => h9) rfl dX8_heap_21 ?_
    refine va_getN (D := E.1) (host := "WornRings") (ref := "WornRings$Heap") (ci := 0) (v := .int (nI R.length)) (C := RX0) (T := TX0) (N := 8) hx hb hts hinX0 hown hK hP 2 rfl rfl 6 (by decide) (va_Nw.use rfl (hNN (.fieldLinkNest RX8 200 "WornRings$Heap" "size" "I" "WornRings") (by decide +kernel))) (fun _ h9 => h9) rfl dX8_heap_24 ?_
    have hP9 : va_P E.1 vwCl [(g0, .inr (8, [.ref gm, .ref gk, .ref gs, .ref ga, .ref gl, .ref gh, .ref gd, .int wA, .int wB, .int wU])), (gh, .inr (0, [.ref an, .ref ae, .ref af, .ref ac, .int cd, .int tg, .int (nI R.length), .int ld])), (ac, .inl (E.2 1, 12, .inl (nA Ch)))] H := hP.sub [0, 2, 1] rfl
    have hD9 : va_D A [(g0, .inr (8, [.ref gm, .ref gk, .ref gs, .ref ga, .ref gl, .ref gh, .ref gd, .int wA, .int wB, .int wU])), (gh, .inr (0, [.ref an, .ref ae, .ref af, .ref ac, .int cd, .int tg, .int (nI R.length), .int ld])), (ac, .inl (E.2 1, 12, .inl (nA Ch)))] := hD.sub [0, 2, 1] (by decide) rfl
    exact W.iret (v := nI R.length) hx hb hr (fun t9 ht9 hW9 => ⟨⟨nI R.length, (), rfl, by rw [fHp, if_pos c_17], ⟨by rw [ht9]; exact hP9, hD9⟩⟩, hS.F ht9⟩) hS.2.2 dX8_heap_27
set_option maxHeartbeats 1000000 in
set_option maxRecDepth 100000 in
theorem c_X8_heap_yes (l : Launch) (E : EnvT) (sz : Nat) (g0 : Nat) (gm : Nat) (gk : Nat) (gs : Nat) (ga : Nat) (gl : Nat) (gh : Nat) (gd : Nat) (wA : Int32) (wB : Int32) (wU : Int32) (an : Nat) (ae : Nat) (af : Nat) (ac : Nat) (aa : Nat) (ab : Nat) (ao : Nat) (ag : Nat) (ar : Nat) (sh : Nat) (rg : Nat) (fo : Nat → Option Nat) (fg : Nat → Option Nat) (fr : Nat → Option Nat) (a1 : Nat) (a2 : Nat) (n : Nat) (th : Nat) (To : Nat → Int32) (Bo : Nat → Int32) (ps : List PRt) (cov : Nat → Nat) (cd : Int32) (tg : Int32) (szz : Int32) (Nu : Nat → Nat) (Ex : Nat → Nat) (Fw : Nat → Nat) (Ch : Nat → Nat) (iv : Int32) (hs1 : 1 ≤ sh) (hs4 : sh ≤ 4) (hr8 : rg ≤ 8) (hn : n ≤ 12) (hth : th ≤ 100) (hPA : PartsAt fo fg fr sh rg ps To Bo th n cov) (hb0 : ∀ j, Fw j ≤ 12) (hR12 : (hpR cov).length ≤ 12) : Met l yX8_heap wsX8_heap ({ frames := 5, cells := 0, slots := 0, locals := 120 }) (va_Pc [.ref g0, .int iv] (PW E ([(g0, .inr (8, [.ref gm, .ref gk, .ref gs, .ref ga, .ref gl, .ref gh, .ref gd, .int wA, .int wB, .int wU])), (gh, .inr (0, [.ref an, .ref ae, .ref af, .ref ac, .int cd, .int tg, .int szz, .int 0])), (an, .inl (E.2 1, 39, .inl (nA Nu))), (ae, .inl (E.2 1, 39, .inl (nA Ex))), (af, .inl (E.2 0, 4096, .inl (nA Fw))), (ac, .inl (E.2 1, 12, .inl (nA Ch))), (gm, .inr (3, [.ref aa, .ref ab, .ref ao, .ref ag, .ref ar, .int (nI sh), .int (nI rg)])), (ao, .inl (E.2 4, 4, .inr (.inr (.inr (.inr fo))))), (ag, .inl (E.2 4, 4, .inr (.inr (.inr (.inr fg))))), (ar, .inl (E.2 4, 32, .inr (.inr (.inr (.inr fr))))), (gl, .inr (1, [.ref a1, .ref a2, .int (nI n), .int (nI th)])), (a1, .inl (E.2 1, 12, .inl To)), (a2, .inl (E.2 1, 12, .inl Bo))] ++ poolC E ps) sz)) (va_Qi (fun (r : Int32) (uu : (Nat → Nat) × (Nat → Nat) × (Nat → Nat) × (Nat → Nat)) => r = fHp (hpR cov) iv ∧ (RLs uu.2.2.2 (hpR cov) ∧ (∀ j, uu.2.2.1 j ≤ 12))) (fun (uu : (Nat → Nat) × (Nat → Nat) × (Nat → Nat) × (Nat → Nat)) t => BW E (va_A ([(g0, .inr (8, [.ref gm, .ref gk, .ref gs, .ref ga, .ref gl, .ref gh, .ref gd, .int wA, .int wB, .int wU])), (gh, .inr (0, [.ref an, .ref ae, .ref af, .ref ac, .int cd, .int tg, .int szz, .int 0])), (an, .inl (E.2 1, 39, .inl (nA Nu))), (ae, .inl (E.2 1, 39, .inl (nA Ex))), (af, .inl (E.2 0, 4096, .inl (nA Fw))), (ac, .inl (E.2 1, 12, .inl (nA Ch))), (gm, .inr (3, [.ref aa, .ref ab, .ref ao, .ref ag, .ref ar, .int (nI sh), .int (nI rg)])), (ao, .inl (E.2 4, 4, .inr (.inr (.inr (.inr fo))))), (ag, .inl (E.2 4, 4, .inr (.inr (.inr (.inr fg))))), (ar, .inl (E.2 4, 32, .inr (.inr (.inr (.inr fr))))), (gl, .inr (1, [.ref a1, .ref a2, .int (nI n), .int (nI th)])), (a1, .inl (E.2 1, 12, .inl To)), (a2, .inl (E.2 1, 12, .inl Bo))] ++ poolC E ps) sz) ([(g0, .inr (8, [.ref gm, .ref gk, .ref gs, .ref ga, .ref gl, .ref gh, .ref gd, .int wA, .int wB, .int wU])), (gh, .inr (0, [.ref an, .ref ae, .ref af, .ref ac, .int (nI (esC cov).length), .int (nI (orC cov 39)), .int (nI (hpR cov).length), .int 1])), (an, .inl (E.2 1, 39, .inl (nA uu.1))), (ae, .inl (E.2 1, 39, .inl (nA uu.2.1))), (af, .inl (E.2 0, 4096, .inl (nA uu.2.2.1))), (ac, .inl (E.2 1, 12, .inl (nA uu.2.2.2))), (gm, .inr (3, [.ref aa, .ref ab, .ref ao, .ref ag, .ref ar, .int (nI sh), .int (nI rg)])), (ao, .inl (E.2 4, 4, .inr (.inr (.inr (.inr fo))))), (ag, .inl (E.2 4, 4, .inr (.inr (.inr (.inr fg))))), (ar, .inl (E.2 4, 32, .inr (.inr (.inr (.inr fr))))), (gl, .inr (1, [.ref a1, .ref a2, .int (nI n), .int (nI th)])), (a1, .inl (E.2 1, 12, .inl To)), (a2, .inl (E.2 1, 12, .inl Bo))] ++ poolC E ps) t) (va_A ([(g0, .inr (8, [.ref gm, .ref gk, .ref gs, .ref ga, .ref gl, .ref gh, .ref gd, .int wA, .int wB, .int wU])), (gh, .inr (0, [.ref an, .ref ae, .ref af, .ref ac, .int cd, .int tg, .int szz, .int 0])), (an, .inl (E.2 1, 39, .inl (nA Nu))), (ae, .inl (E.2 1, 39, .inl (nA Ex))), (af, .inl (E.2 0, 4096, .inl (nA Fw))), (ac, .inl (E.2 1, 12, .inl (nA Ch))), (gm, .inr (3, [.ref aa, .ref ab, .ref ao, .ref ag, .ref ar, .int (nI sh), .int (nI rg)])), (ao, .inl (E.2 4, 4, .inr (.inr (.inr (.inr fo))))), (ag, .inl (E.2 4, 4, .inr (.inr (.inr (.inr fg))))), (ar, .inl (E.2 4, 32, .inr (.inr (.inr (.inr fr))))), (gl, .inr (1, [.ref a1, .ref a2, .int (nI n), .int (nI th)])), (a1, .inl (E.2 1, 12, .inl To)), (a2, .inl (E.2 1, 12, .inl Bo))] ++ poolC E ps) sz)) 0 0 (va_A ([(g0, .inr (8, [.ref gm, .ref gk, .ref gs, .ref ga, .ref gl, .ref gh, .ref gd, .int wA, .int wB, .int wU])), (gh, .inr (0, [.ref an, .ref ae, .ref af, .ref ac, .int cd, .int tg, .int szz, .int 0])), (an, .inl (E.2 1, 39, .inl (nA Nu))), (ae, .inl (E.2 1, 39, .inl (nA Ex))), (af, .inl (E.2 0, 4096, .inl (nA Fw))), (ac, .inl (E.2 1, 12, .inl (nA Ch))), (gm, .inr (3, [.ref aa, .ref ab, .ref ao, .ref ag, .ref ar, .int (nI sh), .int (nI rg)])), (ao, .inl (E.2 4, 4, .inr (.inr (.inr (.inr fo))))), (ag, .inl (E.2 4, 4, .inr (.inr (.inr (.inr fg))))), (ar, .inl (E.2 4, 32, .inr (.inr (.inr (.inr fr))))), (gl, .inr (1, [.ref a1, .ref a2, .int (nI n), .int (nI th)])), (a1, .inl (E.2 1, 12, .inl To)), (a2, .inl (E.2 1, 12, .inl Bo))] ++ poolC E ps) sz) := by
  refine Met.ofW (cc := cX8_heap) (maxL := 2) (ret := (some .int)) (by decide +kernel) rfl ?_
  intro p e s m args below meth c s₁ B hml hv
  obtain ⟨rfl, hsz, hP, hE, hD0⟩ := hv
  have hx := B.exec
  have hb := B.bytes
  have hr := B.returns
  have hts := atoms_spec (ws := wsX8_heap) B.pre
  have hown : s.vm.findClass RX8 = some m.cls := findClass_of_methodNamed B.named
  have hlocks := B.notSynchronized
  have hK := hE.1
  have hNN := hE.2.1
  have hinX8 : ∀ w ∈ wsX80, w ∈ wsX8_heap := fun w h => List.mem_cons_of_mem _ (List.mem_append_left _ (List.mem_append_left _ (List.mem_append_left _ (List.mem_append_left _ (List.mem_append_right _ h)))))
  have hinX0 : ∀ w ∈ wsX00, w ∈ wsX8_heap := fun w h => List.mem_cons_of_mem _ (List.mem_append_left _ (List.mem_append_left _ (List.mem_append_left _ (List.mem_append_right _ h))))
  subst hsz
  have hD := hD0.self (sz := s.heap.size)
  generalize hAe : va_A ([(g0, .inr (8, [.ref gm, .ref gk, .ref gs, .ref ga, .ref gl, .ref gh, .ref gd, .int wA, .int wB, .int wU])), (gh, .inr (0, [.ref an, .ref ae, .ref af, .ref ac, .int cd, .int tg, .int szz, .int 0])), (an, .inl (E.2 1, 39, .inl (nA Nu))), (ae, .inl (E.2 1, 39, .inl (nA Ex))), (af, .inl (E.2 0, 4096, .inl (nA Fw))), (ac, .inl (E.2 1, 12, .inl (nA Ch))), (gm, .inr (3, [.ref aa, .ref ab, .ref ao, .ref ag, .ref ar, .int (nI sh), .int (nI rg)])), (ao, .inl (E.2 4, 4, .inr (.inr (.inr (.inr fo))))), (ag, .inl (E.2 4, 4, .inr (.inr (.inr (.inr fg))))), (ar, .inl (E.2 4, 32, .inr (.inr (.inr (.inr fr))))), (gl, .inr (1, [.ref a1, .ref a2, .int (nI n), .int (nI th)])), (a1, .inl (E.2 1, 12, .inl To)), (a2, .inl (E.2 1, 12, .inl Bo))] ++ poolC E ps) s.heap.size = A at hD ⊢
  have hA : ∀ q : Nat, s.heap.size ≤ q → A q := fun q h => by rw [← hAe]; exact Or.inr h
  have hS : va_S A s.heap s.heap [] := va_S.rf
  have hl := lv_entry ([.ref g0, .int iv]) (n := 2) (Nat.le_of_ble_eq_true rfl)
  rw [lg_entry_eq]
  generalize (lg_sl ([.ref g0, .int iv]) ++ List.replicate (2 - (lg_sl ([.ref g0, .int iv])).length) Slot.unset).toArray = ls at hl ⊢
  have hl : lv_has ls 2 [(0, .ref g0), (1, .int iv)] := hl
  refine lv_aload_n hx hb dX8_heap_0 rfl (lv_at hl 0 rfl) ?_
  refine va_get (D := E.1) (ci := 8) (v := .ref gh) (C := RX8) (T := TX8) (N := 10) hx hb hts hinX8 hown hK hP 0 rfl rfl 5 (by decide) (hts (.fieldLink RX8 46 "WornRings" "fewestParts" "LWornRings$Heap;") (by decide +kernel)) (fun _ h9 => h9) rfl dX8_heap_1 ?_
  refine lv_aload_n hx hb dX8_heap_4 rfl (lv_at hl 0 rfl) ?_
  refine va_get (D := E.1) (ci := 8) (v := .ref gm) (C := RX8) (T := TX8) (N := 10) hx hb hts hinX8 hown hK hP 0 rfl rfl 0 (by decide) (hts (.fieldLink RX8 12 "WornRings" "machine" "LWornRings$Machine;") (by decide +kernel)) (fun _ h9 => h9) rfl dX8_heap_5 ?_
  refine lv_aload_n hx hb dX8_heap_8 rfl (lv_at hl 0 rfl) ?_
  refine va_get (D := E.1) (ci := 8) (v := .ref gl) (C := RX8) (T := TX8) (N := 10) hx hb hts hinX8 hown hK hP 0 rfl rfl 4 (by decide) (hts (.fieldLink RX8 39 "WornRings" "lines" "LWornRings$Lines;") (by decide +kernel)) (fun _ h9 => h9) rfl dX8_heap_9 ?_
  refine wVvP (wr := [(g0, .inr (8, [.ref gm, .ref gk, .ref gs, .ref ga, .ref gl, .ref gh, .ref gd, .int wA, .int wB, .int wU]))]) hE ⟨hx, hb, hml, hown, hts⟩ (c_X0_layDown_yes l E s.heap.size gh an ae af ac gm aa ab ao ag ar sh rg fo fg fr gl a1 a2 n th To Bo ps cov cd tg szz Nu Ex Fw Ch (hs1) (hs4) (hr8) (hn) (hth) (hPA) (hb0)) (cwV 2 hts gX8_heap_X0_layDown rfl rfl rfl (by decide +kernel) ⟨Nat.le_of_ble_eq_true rfl, Nat.le_of_ble_eq_true rfl⟩) hP hD hS hA [1, 2, 3, 4, 5, 6, 7, 8, 9, 10, 11, 12] [0] rfl rfl (by decide) (by decide) (by decide) 0 0 rfl rfl rfl hl.1 rfl (Nat.le_of_ble_eq_true rfl) dX8_heap_12 ⟨(Nat.zero_le _), (Nat.zero_le _)⟩ (fun u H locs hw hP hD hS => ?_)
  obtain ⟨N2_12, X2_12, F2_12, C2_12⟩ := u
  have hP : va_P E.1 vwCl ([(g0, .inr (8, [.ref gm, .ref gk, .ref gs, .ref ga, .ref gl, .ref gh, .ref gd, .int wA, .int wB, .int wU])), (gh, .inr (0, [.ref an, .ref ae, .ref af, .ref ac, .int (nI (esC cov).length), .int (nI (orC cov 39)), .int (nI (hpR cov).length), .int 1])), (an, .inl (E.2 1, 39, .inl (nA N2_12))), (ae, .inl (E.2 1, 39, .inl (nA X2_12))), (af, .inl (E.2 0, 4096, .inl (nA F2_12))), (ac, .inl (E.2 1, 12, .inl (nA C2_12))), (gm, .inr (3, [.ref aa, .ref ab, .ref ao, .ref ag, .ref ar, .int (nI sh), .int (nI rg)])), (ao, .inl (E.2 4, 4, .inr (.inr (.inr (.inr fo))))), (ag, .inl (E.2 4, 4, .inr (.inr (.inr (.inr fg))))), (ar, .inl (E.2 4, 32, .inr (.inr (.inr (.inr fr))))), (gl, .inr (1, [.ref a1, .ref a2, .int (nI n), .int (nI th)])), (a1, .inl (E.2 1, 12, .inl To)), (a2, .inl (E.2 1, 12, .inl Bo))] ++ poolC E ps) H := hP
  have hD : va_D A ([(g0, .inr (8, [.ref gm, .ref gk, .ref gs, .ref ga, .ref gl, .ref gh, .ref gd, .int wA, .int wB, .int wU])), (gh, .inr (0, [.ref an, .ref ae, .ref af, .ref ac, .int (nI (esC cov).length), .int (nI (orC cov 39)), .int (nI (hpR cov).length), .int 1])), (an, .inl (E.2 1, 39, .inl (nA N2_12))), (ae, .inl (E.2 1, 39, .inl (nA X2_12))), (af, .inl (E.2 0, 4096, .inl (nA F2_12))), (ac, .inl (E.2 1, 12, .inl (nA C2_12))), (gm, .inr (3, [.ref aa, .ref ab, .ref ao, .ref ag, .ref ar, .int (nI sh), .int (nI rg)])), (ao, .inl (E.2 4, 4, .inr (.inr (.inr (.inr fo))))), (ag, .inl (E.2 4, 4, .inr (.inr (.inr (.inr fg))))), (ar, .inl (E.2 4, 32, .inr (.inr (.inr (.inr fr))))), (gl, .inr (1, [.ref a1, .ref a2, .int (nI n), .int (nI th)])), (a1, .inl (E.2 1, 12, .inl To)), (a2, .inl (E.2 1, 12, .inl Bo))] ++ poolC E ps) := hD
  have hm_12 := hw
  refine lv_iload_n hx hb dX8_heap_15 rfl (lv_at hl 1 rfl) ?_
  refine lv_iconst (v := (-1)) hx hb dX8_heap_16 (by decide) ?_
  refine lv_icmp_ne (tgt := 28) hx hb dX8_heap_17 (by decide) (fun c_17 => ?_) (fun c_17 => ?_)
  · refine lv_iload_n hx hb dX8_heap_28 rfl (lv_at hl 1 rfl) ?_
    refine lv_iconst (v := 0) hx hb dX8_heap_29 (by decide) ?_
    refine lv_aload_n hx hb dX8_heap_30 rfl (lv_at hl 0 rfl) ?_
    refine va_get (D := E.1) (ci := 8) (v := .ref gh) (C := RX8) (T := TX8) (N := 10) hx hb hts hinX8 hown hK hP 0 rfl rfl 5 (by decide) (hts (.fieldLink RX8 46 "WornRings" "fewestParts" "LWornRings$Heap;") (by decide +kernel)) (fun _ h9 => h9) rfl dX8_heap_31 ?_
    refine va_getN (D := E.1) (host := "WornRings") (ref := "WornRings$Heap") (ci := 0) (v := .int (nI (hpR cov).length)) (C := RX0) (T := TX0) (N := 8) hx hb hts hinX0 hown hK hP 1 rfl rfl 6 (by decide) (va_Nw.use rfl (hNN (.fieldLinkNest RX8 200 "WornRings$Heap" "size" "I" "WornRings") (by decide +kernel))) (fun _ h9 => h9) rfl dX8_heap_34 ?_
    refine lv_iconst (v := 1) hx hb dX8_heap_37 (by decide) ?_
    refine lv_isub hx hb dX8_heap_38 ?_
    refine rSi hE ⟨hx, hb, hml, hown, hts⟩ (c_X8_within l E iv 0 ((nI (hpR cov).length) - 1) ) (va_cwS 3 hts gX8_heap_X8_within rfl rfl rfl (by decide +kernel) ⟨Nat.le_of_ble_eq_true rfl, Nat.le_of_ble_eq_true rfl⟩) (hP.sub [] rfl) rfl hl.1 rfl (Nat.le_of_ble_eq_true rfl) dX8_heap_39 ⟨(Nat.zero_le _), (Nat.zero_le _)⟩ ?_
    refine lv_if_eq (tgt := 57) hx hb dX8_heap_42 (by decide) (fun c_42 => ?_) (fun c_42 => ?_)
    · have c_42 := fWi_0 c_42
      refine lv_iconst (v := (-1)) hx hb dX8_heap_57 (by decide) ?_
      have hP9 : va_P E.1 vwCl ([(g0, .inr (8, [.ref gm, .ref gk, .ref gs, .ref ga, .ref gl, .ref gh, .ref gd, .int wA, .int wB, .int wU])), (gh, .inr (0, [.ref an, .ref ae, .ref af, .ref ac, .int (nI (esC cov).length), .int (nI (orC cov 39)), .int (nI (hpR cov).length), .int 1])), (an, .inl (E.2 1, 39, .inl (nA N2_12))), (ae, .inl (E.2 1, 39, .inl (nA X2_12))), (af, .inl (E.2 0, 4096, .inl (nA F2_12))), (ac, .inl (E.2 1, 12, .inl (nA C2_12))), (gm, .inr (3, [.ref aa, .ref ab, .ref ao, .ref ag, .ref ar, .int (nI sh), .int (nI rg)])), (ao, .inl (E.2 4, 4, .inr (.inr (.inr (.inr fo))))), (ag, .inl (E.2 4, 4, .inr (.inr (.inr (.inr fg))))), (ar, .inl (E.2 4, 32, .inr (.inr (.inr (.inr fr))))), (gl, .inr (1, [.ref a1, .ref a2, .int (nI n), .int (nI th)])), (a1, .inl (E.2 1, 12, .inl To)), (a2, .inl (E.2 1, 12, .inl Bo))] ++ poolC E ps) H := hP.part [0, 1, 2, 3, 4, 5, 6, 7, 8, 9, 10, 11, 12] rfl
      have hD9 : va_D A ([(g0, .inr (8, [.ref gm, .ref gk, .ref gs, .ref ga, .ref gl, .ref gh, .ref gd, .int wA, .int wB, .int wU])), (gh, .inr (0, [.ref an, .ref ae, .ref af, .ref ac, .int (nI (esC cov).length), .int (nI (orC cov 39)), .int (nI (hpR cov).length), .int 1])), (an, .inl (E.2 1, 39, .inl (nA N2_12))), (ae, .inl (E.2 1, 39, .inl (nA X2_12))), (af, .inl (E.2 0, 4096, .inl (nA F2_12))), (ac, .inl (E.2 1, 12, .inl (nA C2_12))), (gm, .inr (3, [.ref aa, .ref ab, .ref ao, .ref ag, .ref ar, .int (nI sh), .int (nI rg)])), (ao, .inl (E.2 4, 4, .inr (.inr (.inr (.inr fo))))), (ag, .inl (E.2 4, 4, .inr (.inr (.inr (.inr fg))))), (ar, .inl (E.2 4, 32, .inr (.inr (.inr (.inr fr))))), (gl, .inr (1, [.ref a1, .ref a2, .int (nI n), .int (nI th)])), (a1, .inl (E.2 1, 12, .inl To)), (a2, .inl (E.2 1, 12, .inl Bo))] ++ poolC E ps) := hD.part [0, 1, 2, 3, 4, 5, 6, 7, 8, 9, 10, 11, 12] (by decide) rfl
      exact W.iret (v := (-1)) hx hb hr (fun t9 ht9 hW9 => ⟨⟨(-1), (N2_12, X2_12, F2_12, C2_12), rfl, ⟨by first | (rw [fHp, if_neg c_17, if_neg c_42]; done) | (rw [fHp, if_neg c_17, if_pos c_42, nI_clamp (by omega), ← hm_12.1 j hj9]; done), hm_12⟩, ⟨by rw [ht9]; exact hP9, hD9⟩⟩, hS.F ht9⟩) hS.2.2 dX8_heap_58
    · have c_42 := fWi_1 c_42
      obtain ⟨j, hj9, rfl⟩ := ix_of (by omega) c_42.1 c_42.2
      refine lv_aload_n hx hb dX8_heap_45 rfl (lv_at hl 0 rfl) ?_
      refine va_get (D := E.1) (ci := 8) (v := .ref gh) (C := RX8) (T := TX8) (N := 10) hx hb hts hinX8 hown hK hP 0 rfl rfl 5 (by decide) (hts (.fieldLink RX8 46 "WornRings" "fewestParts" "LWornRings$Heap;") (by decide +kernel)) (fun _ h9 => h9) rfl dX8_heap_46 ?_
      refine va_getN (D := E.1) (host := "WornRings") (ref := "WornRings$Heap") (ci := 0) (v := .ref ac) (C := RX0) (T := TX0) (N := 8) hx hb hts hinX0 hown hK hP 1 rfl rfl 3 (by decide) (va_Nw.use rfl (hNN (.fieldLinkNest RX8 203 "WornRings$Heap" "chosen" "[I" "WornRings") (by decide +kernel))) (fun _ h9 => h9) rfl dX8_heap_49 ?_
      refine lv_iload_n hx hb dX8_heap_52 rfl (lv_at hl 1 rfl) ?_
      refine va_iald hx hb hK hP 5 1 rfl rfl (vp_in_nI (by omega) (by omega)) dX8_heap_53 ?_
      rw [nI_clamp (n := j) (by omega)]
      refine W.eq (g2 := F0 m 54 ls [.int (nI (C2_12 j))]) rfl ?_
      refine lv_goto (tgt := 58) hx hb dX8_heap_54 (by decide) ?_
      have hP9 : va_P E.1 vwCl ([(g0, .inr (8, [.ref gm, .ref gk, .ref gs, .ref ga, .ref gl, .ref gh, .ref gd, .int wA, .int wB, .int wU])), (gh, .inr (0, [.ref an, .ref ae, .ref af, .ref ac, .int (nI (esC cov).length), .int (nI (orC cov 39)), .int (nI (hpR cov).length), .int 1])), (an, .inl (E.2 1, 39, .inl (nA N2_12))), (ae, .inl (E.2 1, 39, .inl (nA X2_12))), (af, .inl (E.2 0, 4096, .inl (nA F2_12))), (ac, .inl (E.2 1, 12, .inl (nA C2_12))), (gm, .inr (3, [.ref aa, .ref ab, .ref ao, .ref ag, .ref ar, .int (nI sh), .int (nI rg)])), (ao, .inl (E.2 4, 4, .inr (.inr (.inr (.inr fo))))), (ag, .inl (E.2 4, 4, .inr (.inr (.inr (.inr fg))))), (ar, .inl (E.2 4, 32, .inr (.inr (.inr (.inr fr))))), (gl, .inr (1, [.ref a1, .ref a2, .int (nI n), .int (nI th)])), (a1, .inl (E.2 1, 12, .inl To)), (a2, .inl (E.2 1, 12, .inl Bo))] ++ poolC E ps) H := hP.part [0, 1, 2, 3, 4, 5, 6, 7, 8, 9, 10, 11, 12] rfl
      have hD9 : va_D A ([(g0, .inr (8, [.ref gm, .ref gk, .ref gs, .ref ga, .ref gl, .ref gh, .ref gd, .int wA, .int wB, .int wU])), (gh, .inr (0, [.ref an, .ref ae, .ref af, .ref ac, .int (nI (esC cov).length), .int (nI (orC cov 39)), .int (nI (hpR cov).length), .int 1])), (an, .inl (E.2 1, 39, .inl (nA N2_12))), (ae, .inl (E.2 1, 39, .inl (nA X2_12))), (af, .inl (E.2 0, 4096, .inl (nA F2_12))), (ac, .inl (E.2 1, 12, .inl (nA C2_12))), (gm, .inr (3, [.ref aa, .ref ab, .ref ao, .ref ag, .ref ar, .int (nI sh), .int (nI rg)])), (ao, .inl (E.2 4, 4, .inr (.inr (.inr (.inr fo))))), (ag, .inl (E.2 4, 4, .inr (.inr (.inr (.inr fg))))), (ar, .inl (E.2 4, 32, .inr (.inr (.inr (.inr fr))))), (gl, .inr (1, [.ref a1, .ref a2, .int (nI n), .int (nI th)])), (a1, .inl (E.2 1, 12, .inl To)), (a2, .inl (E.2 1, 12, .inl Bo))] ++ poolC E ps) := hD.part [0, 1, 2, 3, 4, 5, 6, 7, 8, 9, 10, 11, 12] (by decide) rfl
      exact W.iret (v := nI (C2_12 j)) hx hb hr (fun t9 ht9 hW9 => ⟨⟨nI (C2_12 j), (N2_12, X2_12, F2_12, C2_12), rfl, ⟨by first | (rw [fHp, if_neg c_17, if_neg c_42]; done) | (rw [fHp, if_neg c_17, if_pos c_42, nI_clamp (by omega), ← hm_12.1 j hj9]; done), hm_12⟩, ⟨by rw [ht9]; exact hP9, hD9⟩⟩, hS.F ht9⟩) hS.2.2 dX8_heap_58
  · refine lv_aload_n hx hb dX8_heap_20 rfl (lv_at hl 0 rfl) ?_
    refine va_get (D := E.1) (ci := 8) (v := .ref gh) (C := RX8) (T := TX8) (N := 10) hx hb hts hinX8 hown hK hP 0 rfl rfl 5 (by decide) (hts (.fieldLink RX8 46 "WornRings" "fewestParts" "LWornRings$Heap;") (by decide +kernel)) (fun _ h9 => h9) rfl dX8_heap_21 ?_
    refine va_getN (D := E.1) (host := "WornRings") (ref := "WornRings$Heap") (ci := 0) (v := .int (nI (hpR cov).length)) (C := RX0) (T := TX0) (N := 8) hx hb hts hinX0 hown hK hP 1 rfl rfl 6 (by decide) (va_Nw.use rfl (hNN (.fieldLinkNest RX8 200 "WornRings$Heap" "size" "I" "WornRings") (by decide +kernel))) (fun _ h9 => h9) rfl dX8_heap_24 ?_
    have hP9 : va_P E.1 vwCl ([(g0, .inr (8, [.ref gm, .ref gk, .ref gs, .ref ga, .ref gl, .ref gh, .ref gd, .int wA, .int wB, .int wU])), (gh, .inr (0, [.ref an, .ref ae, .ref af, .ref ac, .int (nI (esC cov).length), .int (nI (orC cov 39)), .int (nI (hpR cov).length), .int 1])), (an, .inl (E.2 1, 39, .inl (nA N2_12))), (ae, .inl (E.2 1, 39, .inl (nA X2_12))), (af, .inl (E.2 0, 4096, .inl (nA F2_12))), (ac, .inl (E.2 1, 12, .inl (nA C2_12))), (gm, .inr (3, [.ref aa, .ref ab, .ref ao, .ref ag, .ref ar, .int (nI sh), .int (nI rg)])), (ao, .inl (E.2 4, 4, .inr (.inr (.inr (.inr fo))))), (ag, .inl (E.2 4, 4, .inr (.inr (.inr (.inr fg))))), (ar, .inl (E.2 4, 32, .inr (.inr (.inr (.inr fr))))), (gl, .inr (1, [.ref a1, .ref a2, .int (nI n), .int (nI th)])), (a1, .inl (E.2 1, 12, .inl To)), (a2, .inl (E.2 1, 12, .inl Bo))] ++ poolC E ps) H := hP.part [0, 1, 2, 3, 4, 5, 6, 7, 8, 9, 10, 11, 12] rfl
    have hD9 : va_D A ([(g0, .inr (8, [.ref gm, .ref gk, .ref gs, .ref ga, .ref gl, .ref gh, .ref gd, .int wA, .int wB, .int wU])), (gh, .inr (0, [.ref an, .ref ae, .ref af, .ref ac, .int (nI (esC cov).length), .int (nI (orC cov 39)), .int (nI (hpR cov).length), .int 1])), (an, .inl (E.2 1, 39, .inl (nA N2_12))), (ae, .inl (E.2 1, 39, .inl (nA X2_12))), (af, .inl (E.2 0, 4096, .inl (nA F2_12))), (ac, .inl (E.2 1, 12, .inl (nA C2_12))), (gm, .inr (3, [.ref aa, .ref ab, .ref ao, .ref ag, .ref ar, .int (nI sh), .int (nI rg)])), (ao, .inl (E.2 4, 4, .inr (.inr (.inr (.inr fo))))), (ag, .inl (E.2 4, 4, .inr (.inr (.inr (.inr fg))))), (ar, .inl (E.2 4, 32, .inr (.inr (.inr (.inr fr))))), (gl, .inr (1, [.ref a1, .ref a2, .int (nI n), .int (nI th)])), (a1, .inl (E.2 1, 12, .inl To)), (a2, .inl (E.2 1, 12, .inl Bo))] ++ poolC E ps) := hD.part [0, 1, 2, 3, 4, 5, 6, 7, 8, 9, 10, 11, 12] (by decide) rfl
    exact W.iret (v := nI (hpR cov).length) hx hb hr (fun t9 ht9 hW9 => ⟨⟨nI (hpR cov).length, (N2_12, X2_12, F2_12, C2_12), rfl, ⟨by rw [fHp, if_pos c_17], hm_12⟩, ⟨by rw [ht9]; exact hP9, hD9⟩⟩, hS.F ht9⟩) hS.2.2 dX8_heap_27
set_option maxHeartbeats 1000000 in
set_option maxRecDepth 100000 in
theorem c_X8_strange_no (l : Launch) (E : EnvT) (sz : Nat) (g0 : Nat) (gm : Nat) (gk : Nat) (gs : Nat) (ga : Nat) (gl : Nat) (gh : Nat) (gd : Nat) (wA : Int32) (wB : Int32) (wU : Int32) (a1 : Nat) (a2 : Nat) (n : Nat) (th : Nat) (To : Nat → Int32) (Bo : Nat → Int32) (an : Nat) (ae : Nat) (af : Nat) (ac : Nat) (cd : Int32) (tgn : Nat) (szz : Int32) (ld : Int32) (hld : ¬ ld = 0) (hn : n ≤ 12) : Met l yX8_strange wsX8_strange ({ frames := 1, cells := 0, slots := 0, locals := 22 }) (va_Pc [.ref g0] (PW E [(g0, .inr (8, [.ref gm, .ref gk, .ref gs, .ref ga, .ref gl, .ref gh, .ref gd, .int wA, .int wB, .int wU])), (gl, .inr (1, [.ref a1, .ref a2, .int (nI n), .int (nI th)])), (a1, .inl (E.2 1, 12, .inl To)), (a2, .inl (E.2 1, 12, .inl Bo)), (gh, .inr (0, [.ref an, .ref ae, .ref af, .ref ac, .int cd, .int (nI tgn), .int szz, .int ld]))] sz)) (va_Qi (fun (r : Int32) (uu : Unit) => r = nI (mdf (2 ^ n - 1) tgn)) (fun (uu : Unit) t => BW E (va_A [(g0, .inr (8, [.ref gm, .ref gk, .ref gs, .ref ga, .ref gl, .ref gh, .ref gd, .int wA, .int wB, .int wU])), (gl, .inr (1, [.ref a1, .ref a2, .int (nI n), .int (nI th)])), (a1, .inl (E.2 1, 12, .inl To)), (a2, .inl (E.2 1, 12, .inl Bo)), (gh, .inr (0, [.ref an, .ref ae, .ref af, .ref ac, .int cd, .int (nI tgn), .int szz, .int ld]))] sz) [(g0, .inr (8, [.ref gm, .ref gk, .ref gs, .ref ga, .ref gl, .ref gh, .ref gd, .int wA, .int wB, .int wU])), (gl, .inr (1, [.ref a1, .ref a2, .int (nI n), .int (nI th)])), (a1, .inl (E.2 1, 12, .inl To)), (a2, .inl (E.2 1, 12, .inl Bo)), (gh, .inr (0, [.ref an, .ref ae, .ref af, .ref ac, .int cd, .int (nI tgn), .int szz, .int ld]))] t) (va_A [(g0, .inr (8, [.ref gm, .ref gk, .ref gs, .ref ga, .ref gl, .ref gh, .ref gd, .int wA, .int wB, .int wU])), (gl, .inr (1, [.ref a1, .ref a2, .int (nI n), .int (nI th)])), (a1, .inl (E.2 1, 12, .inl To)), (a2, .inl (E.2 1, 12, .inl Bo)), (gh, .inr (0, [.ref an, .ref ae, .ref af, .ref ac, .int cd, .int (nI tgn), .int szz, .int ld]))] sz)) 0 0 (va_A [(g0, .inr (8, [.ref gm, .ref gk, .ref gs, .ref ga, .ref gl, .ref gh, .ref gd, .int wA, .int wB, .int wU])), (gl, .inr (1, [.ref a1, .ref a2, .int (nI n), .int (nI th)])), (a1, .inl (E.2 1, 12, .inl To)), (a2, .inl (E.2 1, 12, .inl Bo)), (gh, .inr (0, [.ref an, .ref ae, .ref af, .ref ac, .int cd, .int (nI tgn), .int szz, .int ld]))] sz) := by
  refine Met.ofW (cc := cX8_strange) (maxL := 1) (ret := (some .int)) (by decide +kernel) rfl ?_
  intro p e s m args below meth c s₁ B hml hv
  obtain ⟨rfl, hsz, hP, hE, hD0⟩ := hv
  have hx := B.exec
  have hb := B.bytes
  have hr := B.returns
  have hts := atoms_spec (ws := wsX8_strange) B.pre
  have hown : s.vm.findClass RX8 = some m.cls := findClass_of_methodNamed B.named
  have hlocks := B.notSynchronized
  have hK := hE.1
  have hNN := hE.2.1
  have hinX8 : ∀ w ∈ wsX80, w ∈ wsX8_strange := fun w h => List.mem_cons_of_mem _ (List.mem_append_left _ (List.mem_append_left _ (List.mem_append_left _ (List.mem_append_left _ (List.mem_append_right _ h)))))
  have hinX0 : ∀ w ∈ wsX00, w ∈ wsX8_strange := fun w h => List.mem_cons_of_mem _ (List.mem_append_left _ (List.mem_append_left _ (List.mem_append_left _ (List.mem_append_right _ h))))
  subst hsz
  have hD := hD0.self (sz := s.heap.size)
  generalize hAe : va_A [(g0, .inr (8, [.ref gm, .ref gk, .ref gs, .ref ga, .ref gl, .ref gh, .ref gd, .int wA, .int wB, .int wU])), (gl, .inr (1, [.ref a1, .ref a2, .int (nI n), .int (nI th)])), (a1, .inl (E.2 1, 12, .inl To)), (a2, .inl (E.2 1, 12, .inl Bo)), (gh, .inr (0, [.ref an, .ref ae, .ref af, .ref ac, .int cd, .int (nI tgn), .int szz, .int ld]))] s.heap.size = A at hD ⊢
  have hA : ∀ q : Nat, s.heap.size ≤ q → A q := fun q h => by rw [← hAe]; exact Or.inr h
  have hS : va_S A s.heap s.heap [] := va_S.rf
  have hl := lv_entry ([.ref g0]) (n := 1) (Nat.le_of_ble_eq_true rfl)
  rw [lg_entry_eq]
  generalize (lg_sl ([.ref g0]) ++ List.replicate (1 - (lg_sl ([.ref g0])).length) Slot.unset).toArray = ls at hl ⊢
  have hl : lv_has ls 1 [(0, .ref g0)] := hl
  refine lv_aload_n hx hb dX8_strange_0 rfl (lv_at hl 0 rfl) ?_
  refine va_get (D := E.1) (ci := 8) (v := .ref gh) (C := RX8) (T := TX8) (N := 10) hx hb hts hinX8 hown hK hP 0 rfl rfl 5 (by decide) (hts (.fieldLink RX8 46 "WornRings" "fewestParts" "LWornRings$Heap;") (by decide +kernel)) (fun _ h9 => h9) rfl dX8_strange_1 ?_
  refine lv_aload_n hx hb dX8_strange_4 rfl (lv_at hl 0 rfl) ?_
  refine va_get (D := E.1) (ci := 8) (v := .ref gm) (C := RX8) (T := TX8) (N := 10) hx hb hts hinX8 hown hK hP 0 rfl rfl 0 (by decide) (hts (.fieldLink RX8 12 "WornRings" "machine" "LWornRings$Machine;") (by decide +kernel)) (fun _ h9 => h9) rfl dX8_strange_5 ?_
  refine lv_aload_n hx hb dX8_strange_8 rfl (lv_at hl 0 rfl) ?_
  refine va_get (D := E.1) (ci := 8) (v := .ref gl) (C := RX8) (T := TX8) (N := 10) hx hb hts hinX8 hown hK hP 0 rfl rfl 4 (by decide) (hts (.fieldLink RX8 39 "WornRings" "lines" "LWornRings$Lines;") (by decide +kernel)) (fun _ h9 => h9) rfl dX8_strange_9 ?_
  refine wVv (wr := [(g0, .inr (8, [.ref gm, .ref gk, .ref gs, .ref ga, .ref gl, .ref gh, .ref gd, .int wA, .int wB, .int wU])), (gl, .inr (1, [.ref a1, .ref a2, .int (nI n), .int (nI th)])), (a1, .inl (E.2 1, 12, .inl To)), (a2, .inl (E.2 1, 12, .inl Bo))]) hE ⟨hx, hb, hml, hown, hts⟩ (c_X0_layDown_no l E s.heap.size gh an ae af ac cd (nI tgn) szz ld gm gl (hld)) (cwV 2 hts gX8_strange_X0_layDown rfl rfl rfl (by decide +kernel) ⟨Nat.le_of_ble_eq_true rfl, Nat.le_of_ble_eq_true rfl⟩) hP hD hS hA [4] [0, 1, 2, 3] rfl rfl (by decide) (by decide) (by decide) 0 0 rfl rfl rfl hl.1 rfl (Nat.le_of_ble_eq_true rfl) dX8_strange_12 ⟨(Nat.zero_le _), (Nat.zero_le _)⟩ (fun u H locs hw hP hD hS => ?_)
  have hP : va_P E.1 vwCl [(g0, .inr (8, [.ref gm, .ref gk, .ref gs, .ref ga, .ref gl, .ref gh, .ref gd, .int wA, .int wB, .int wU])), (gl, .inr (1, [.ref a1, .ref a2, .int (nI n), .int (nI th)])), (a1, .inl (E.2 1, 12, .inl To)), (a2, .inl (E.2 1, 12, .inl Bo)), (gh, .inr (0, [.ref an, .ref ae, .ref af, .ref ac, .int cd, .int (nI tgn), .int szz, .int ld]))] H := hP
  have hD : va_D A [(g0, .inr (8, [.ref gm, .ref gk, .ref gs, .ref ga, .ref gl, .ref gh, .ref gd, .int wA, .int wB, .int wU])), (gl, .inr (1, [.ref a1, .ref a2, .int (nI n), .int (nI th)])), (a1, .inl (E.2 1, 12, .inl To)), (a2, .inl (E.2 1, 12, .inl Bo)), (gh, .inr (0, [.ref an, .ref ae, .ref af, .ref ac, .int cd, .int (nI tgn), .int szz, .int ld]))] := hD
  refine lv_aload_n hx hb dX8_strange_15 rfl (lv_at hl 0 rfl) ?_
  refine va_get (D := E.1) (ci := 8) (v := .ref gl) (C := RX8) (T := TX8) (N := 10) hx hb hts hinX8 hown hK hP 0 rfl rfl 4 (by decide) (hts (.fieldLink RX8 39 "WornRings" "lines" "LWornRings$Lines;") (by decide +kernel)) (fun _ h9 => h9) rfl dX8_strange_16 ?_
  refine rVi hE ⟨hx, hb, hml, hown, hts⟩ (c_X1_allBits l E gl a1 a2 n th To Bo (hn)) (cwV 0 hts gX8_strange_X1_allBits rfl rfl rfl (by decide +kernel) ⟨Nat.le_of_ble_eq_true rfl, Nat.le_of_ble_eq_true rfl⟩) (hP.sub [1, 2, 3] rfl) 0 1 rfl rfl rfl hl.1 rfl (Nat.le_of_ble_eq_true rfl) dX8_strange_19 ⟨(Nat.zero_le _), (Nat.zero_le _)⟩ ?_
  refine lv_aload_n hx hb dX8_strange_22 rfl (lv_at hl 0 rfl) ?_
  refine va_get (D := E.1) (ci := 8) (v := .ref gh) (C := RX8) (T := TX8) (N := 10) hx hb hts hinX8 hown hK hP 0 rfl rfl 5 (by decide) (hts (.fieldLink RX8 46 "WornRings" "fewestParts" "LWornRings$Heap;") (by decide +kernel)) (fun _ h9 => h9) rfl dX8_strange_23 ?_
  refine va_getN (D := E.1) (host := "WornRings") (ref := "WornRings$Heap") (ci := 0) (v := .int (nI tgn)) (C := RX0) (T := TX0) (N := 8) hx hb hts hinX0 hown hK hP 4 rfl rfl 5 (by decide) (va_Nw.use rfl (hNN (.fieldLinkNest RX8 209 "WornRings$Heap" "together" "I" "WornRings") (by decide +kernel))) (fun _ h9 => h9) rfl dX8_strange_26 ?_
  refine lv_iconst (v := (-1)) hx hb dX8_strange_29 (by decide) ?_
  refine lv_ixor hx hb dX8_strange_30 ?_
  refine lv_iand hx hb dX8_strange_31 ?_
  have hP9 : va_P E.1 vwCl [(g0, .inr (8, [.ref gm, .ref gk, .ref gs, .ref ga, .ref gl, .ref gh, .ref gd, .int wA, .int wB, .int wU])), (gl, .inr (1, [.ref a1, .ref a2, .int (nI n), .int (nI th)])), (a1, .inl (E.2 1, 12, .inl To)), (a2, .inl (E.2 1, 12, .inl Bo)), (gh, .inr (0, [.ref an, .ref ae, .ref af, .ref ac, .int cd, .int (nI tgn), .int szz, .int ld]))] H := hP.sub [0, 1, 2, 3, 4] rfl
  have hD9 : va_D A [(g0, .inr (8, [.ref gm, .ref gk, .ref gs, .ref ga, .ref gl, .ref gh, .ref gd, .int wA, .int wB, .int wU])), (gl, .inr (1, [.ref a1, .ref a2, .int (nI n), .int (nI th)])), (a1, .inl (E.2 1, 12, .inl To)), (a2, .inl (E.2 1, 12, .inl Bo)), (gh, .inr (0, [.ref an, .ref ae, .ref af, .ref ac, .int cd, .int (nI tgn), .int szz, .int ld]))] := hD.sub [0, 1, 2, 3, 4] (by decide) rfl
  exact W.iret (v := (nI (2 ^ n - 1)) &&& ((nI tgn) ^^^ (-1))) hx hb hr (fun t9 ht9 hW9 => ⟨⟨(nI (2 ^ n - 1)) &&& ((nI tgn) ^^^ (-1)), (), rfl, xx_diff _ _, ⟨by rw [ht9]; exact hP9, hD9⟩⟩, hS.F ht9⟩) hS.2.2 dX8_strange_32
set_option maxHeartbeats 1000000 in
set_option maxRecDepth 100000 in
theorem c_X8_strange_yes (l : Launch) (E : EnvT) (sz : Nat) (g0 : Nat) (gm : Nat) (gk : Nat) (gs : Nat) (ga : Nat) (gl : Nat) (gh : Nat) (gd : Nat) (wA : Int32) (wB : Int32) (wU : Int32) (an : Nat) (ae : Nat) (af : Nat) (ac : Nat) (aa : Nat) (ab : Nat) (ao : Nat) (ag : Nat) (ar : Nat) (sh : Nat) (rg : Nat) (fo : Nat → Option Nat) (fg : Nat → Option Nat) (fr : Nat → Option Nat) (a1 : Nat) (a2 : Nat) (n : Nat) (th : Nat) (To : Nat → Int32) (Bo : Nat → Int32) (ps : List PRt) (cov : Nat → Nat) (cd : Int32) (tg : Int32) (szz : Int32) (Nu : Nat → Nat) (Ex : Nat → Nat) (Fw : Nat → Nat) (Ch : Nat → Nat) (hs1 : 1 ≤ sh) (hs4 : sh ≤ 4) (hr8 : rg ≤ 8) (hn : n ≤ 12) (hth : th ≤ 100) (hPA : PartsAt fo fg fr sh rg ps To Bo th n cov) (hb0 : ∀ j, Fw j ≤ 12) : Met l yX8_strange wsX8_strange ({ frames := 5, cells := 0, slots := 0, locals := 120 }) (va_Pc [.ref g0] (PW E ([(g0, .inr (8, [.ref gm, .ref gk, .ref gs, .ref ga, .ref gl, .ref gh, .ref gd, .int wA, .int wB, .int wU])), (gh, .inr (0, [.ref an, .ref ae, .ref af, .ref ac, .int cd, .int tg, .int szz, .int 0])), (an, .inl (E.2 1, 39, .inl (nA Nu))), (ae, .inl (E.2 1, 39, .inl (nA Ex))), (af, .inl (E.2 0, 4096, .inl (nA Fw))), (ac, .inl (E.2 1, 12, .inl (nA Ch))), (gm, .inr (3, [.ref aa, .ref ab, .ref ao, .ref ag, .ref ar, .int (nI sh), .int (nI rg)])), (ao, .inl (E.2 4, 4, .inr (.inr (.inr (.inr fo))))), (ag, .inl (E.2 4, 4, .inr (.inr (.inr (.inr fg))))), (ar, .inl (E.2 4, 32, .inr (.inr (.inr (.inr fr))))), (gl, .inr (1, [.ref a1, .ref a2, .int (nI n), .int (nI th)])), (a1, .inl (E.2 1, 12, .inl To)), (a2, .inl (E.2 1, 12, .inl Bo))] ++ poolC E ps) sz)) (va_Qi (fun (r : Int32) (uu : (Nat → Nat) × (Nat → Nat) × (Nat → Nat) × (Nat → Nat)) => r = nI (mdf (2 ^ n - 1) (orC cov 39)) ∧ (RLs uu.2.2.2 (hpR cov) ∧ (∀ j, uu.2.2.1 j ≤ 12))) (fun (uu : (Nat → Nat) × (Nat → Nat) × (Nat → Nat) × (Nat → Nat)) t => BW E (va_A ([(g0, .inr (8, [.ref gm, .ref gk, .ref gs, .ref ga, .ref gl, .ref gh, .ref gd, .int wA, .int wB, .int wU])), (gh, .inr (0, [.ref an, .ref ae, .ref af, .ref ac, .int cd, .int tg, .int szz, .int 0])), (an, .inl (E.2 1, 39, .inl (nA Nu))), (ae, .inl (E.2 1, 39, .inl (nA Ex))), (af, .inl (E.2 0, 4096, .inl (nA Fw))), (ac, .inl (E.2 1, 12, .inl (nA Ch))), (gm, .inr (3, [.ref aa, .ref ab, .ref ao, .ref ag, .ref ar, .int (nI sh), .int (nI rg)])), (ao, .inl (E.2 4, 4, .inr (.inr (.inr (.inr fo))))), (ag, .inl (E.2 4, 4, .inr (.inr (.inr (.inr fg))))), (ar, .inl (E.2 4, 32, .inr (.inr (.inr (.inr fr))))), (gl, .inr (1, [.ref a1, .ref a2, .int (nI n), .int (nI th)])), (a1, .inl (E.2 1, 12, .inl To)), (a2, .inl (E.2 1, 12, .inl Bo))] ++ poolC E ps) sz) ([(g0, .inr (8, [.ref gm, .ref gk, .ref gs, .ref ga, .ref gl, .ref gh, .ref gd, .int wA, .int wB, .int wU])), (gh, .inr (0, [.ref an, .ref ae, .ref af, .ref ac, .int (nI (esC cov).length), .int (nI (orC cov 39)), .int (nI (hpR cov).length), .int 1])), (an, .inl (E.2 1, 39, .inl (nA uu.1))), (ae, .inl (E.2 1, 39, .inl (nA uu.2.1))), (af, .inl (E.2 0, 4096, .inl (nA uu.2.2.1))), (ac, .inl (E.2 1, 12, .inl (nA uu.2.2.2))), (gm, .inr (3, [.ref aa, .ref ab, .ref ao, .ref ag, .ref ar, .int (nI sh), .int (nI rg)])), (ao, .inl (E.2 4, 4, .inr (.inr (.inr (.inr fo))))), (ag, .inl (E.2 4, 4, .inr (.inr (.inr (.inr fg))))), (ar, .inl (E.2 4, 32, .inr (.inr (.inr (.inr fr))))), (gl, .inr (1, [.ref a1, .ref a2, .int (nI n), .int (nI th)])), (a1, .inl (E.2 1, 12, .inl To)), (a2, .inl (E.2 1, 12, .inl Bo))] ++ poolC E ps) t) (va_A ([(g0, .inr (8, [.ref gm, .ref gk, .ref gs, .ref ga, .ref gl, .ref gh, .ref gd, .int wA, .int wB, .int wU])), (gh, .inr (0, [.ref an, .ref ae, .ref af, .ref ac, .int cd, .int tg, .int szz, .int 0])), (an, .inl (E.2 1, 39, .inl (nA Nu))), (ae, .inl (E.2 1, 39, .inl (nA Ex))), (af, .inl (E.2 0, 4096, .inl (nA Fw))), (ac, .inl (E.2 1, 12, .inl (nA Ch))), (gm, .inr (3, [.ref aa, .ref ab, .ref ao, .ref ag, .ref ar, .int (nI sh), .int (nI rg)])), (ao, .inl (E.2 4, 4, .inr (.inr (.inr (.inr fo))))), (ag, .inl (E.2 4, 4, .inr (.inr (.inr (.inr fg))))), (ar, .inl (E.2 4, 32, .inr (.inr (.inr (.inr fr))))), (gl, .inr (1, [.ref a1, .ref a2, .int (nI n), .int (nI th)])), (a1, .inl (E.2 1, 12, .inl To)), (a2, .inl (E.2 1, 12, .inl Bo))] ++ poolC E ps) sz)) 0 0 (va_A ([(g0, .inr (8, [.ref gm, .ref gk, .ref gs, .ref ga, .ref gl, .ref gh, .ref gd, .int wA, .int wB, .int wU])), (gh, .inr (0, [.ref an, .ref ae, .ref af, .ref ac, .int cd, .int tg, .int szz, .int 0])), (an, .inl (E.2 1, 39, .inl (nA Nu))), (ae, .inl (E.2 1, 39, .inl (nA Ex))), (af, .inl (E.2 0, 4096, .inl (nA Fw))), (ac, .inl (E.2 1, 12, .inl (nA Ch))), (gm, .inr (3, [.ref aa, .ref ab, .ref ao, .ref ag, .ref ar, .int (nI sh), .int (nI rg)])), (ao, .inl (E.2 4, 4, .inr (.inr (.inr (.inr fo))))), (ag, .inl (E.2 4, 4, .inr (.inr (.inr (.inr fg))))), (ar, .inl (E.2 4, 32, .inr (.inr (.inr (.inr fr))))), (gl, .inr (1, [.ref a1, .ref a2, .int (nI n), .int (nI th)])), (a1, .inl (E.2 1, 12, .inl To)), (a2, .inl (E.2 1, 12, .inl Bo))] ++ poolC E ps) sz) := by
  refine Met.ofW (cc := cX8_strange) (maxL := 1) (ret := (some .int)) (by decide +kernel) rfl ?_
  intro p e s m args below meth c s₁ B hml hv
  obtain ⟨rfl, hsz, hP, hE, hD0⟩ := hv
  have hx := B.exec
  have hb := B.bytes
  have hr := B.returns
  have hts := atoms_spec (ws := wsX8_strange) B.pre
  have hown : s.vm.findClass RX8 = some m.cls := findClass_of_methodNamed B.named
  have hlocks := B.notSynchronized
  have hK := hE.1
  have hNN := hE.2.1
  have hinX8 : ∀ w ∈ wsX80, w ∈ wsX8_strange := fun w h => List.mem_cons_of_mem _ (List.mem_append_left _ (List.mem_append_left _ (List.mem_append_left _ (List.mem_append_left _ (List.mem_append_right _ h)))))
  have hinX0 : ∀ w ∈ wsX00, w ∈ wsX8_strange := fun w h => List.mem_cons_of_mem _ (List.mem_append_left _ (List.mem_append_left _ (List.mem_append_left _ (List.mem_append_right _ h))))
  subst hsz
  have hD := hD0.self (sz := s.heap.size)
  generalize hAe : va_A ([(g0, .inr (8, [.ref gm, .ref gk, .ref gs, .ref ga, .ref gl, .ref gh, .ref gd, .int wA, .int wB, .int wU])), (gh, .inr (0, [.ref an, .ref ae, .ref af, .ref ac, .int cd, .int tg, .int szz, .int 0])), (an, .inl (E.2 1, 39, .inl (nA Nu))), (ae, .inl (E.2 1, 39, .inl (nA Ex))), (af, .inl (E.2 0, 4096, .inl (nA Fw))), (ac, .inl (E.2 1, 12, .inl (nA Ch))), (gm, .inr (3, [.ref aa, .ref ab, .ref ao, .ref ag, .ref ar, .int (nI sh), .int (nI rg)])), (ao, .inl (E.2 4, 4, .inr (.inr (.inr (.inr fo))))), (ag, .inl (E.2 4, 4, .inr (.inr (.inr (.inr fg))))), (ar, .inl (E.2 4, 32, .inr (.inr (.inr (.inr fr))))), (gl, .inr (1, [.ref a1, .ref a2, .int (nI n), .int (nI th)])), (a1, .inl (E.2 1, 12, .inl To)), (a2, .inl (E.2 1, 12, .inl Bo))] ++ poolC E ps) s.heap.size = A at hD ⊢
  have hA : ∀ q : Nat, s.heap.size ≤ q → A q := fun q h => by rw [← hAe]; exact Or.inr h
  have hS : va_S A s.heap s.heap [] := va_S.rf
  have hl := lv_entry ([.ref g0]) (n := 1) (Nat.le_of_ble_eq_true rfl)
  rw [lg_entry_eq]
  generalize (lg_sl ([.ref g0]) ++ List.replicate (1 - (lg_sl ([.ref g0])).length) Slot.unset).toArray = ls at hl ⊢
  have hl : lv_has ls 1 [(0, .ref g0)] := hl
  refine lv_aload_n hx hb dX8_strange_0 rfl (lv_at hl 0 rfl) ?_
  refine va_get (D := E.1) (ci := 8) (v := .ref gh) (C := RX8) (T := TX8) (N := 10) hx hb hts hinX8 hown hK hP 0 rfl rfl 5 (by decide) (hts (.fieldLink RX8 46 "WornRings" "fewestParts" "LWornRings$Heap;") (by decide +kernel)) (fun _ h9 => h9) rfl dX8_strange_1 ?_
  refine lv_aload_n hx hb dX8_strange_4 rfl (lv_at hl 0 rfl) ?_
  refine va_get (D := E.1) (ci := 8) (v := .ref gm) (C := RX8) (T := TX8) (N := 10) hx hb hts hinX8 hown hK hP 0 rfl rfl 0 (by decide) (hts (.fieldLink RX8 12 "WornRings" "machine" "LWornRings$Machine;") (by decide +kernel)) (fun _ h9 => h9) rfl dX8_strange_5 ?_
  refine lv_aload_n hx hb dX8_strange_8 rfl (lv_at hl 0 rfl) ?_
  refine va_get (D := E.1) (ci := 8) (v := .ref gl) (C := RX8) (T := TX8) (N := 10) hx hb hts hinX8 hown hK hP 0 rfl rfl 4 (by decide) (hts (.fieldLink RX8 39 "WornRings" "lines" "LWornRings$Lines;") (by decide +kernel)) (fun _ h9 => h9) rfl dX8_strange_9 ?_
  refine wVvP (wr := [(g0, .inr (8, [.ref gm, .ref gk, .ref gs, .ref ga, .ref gl, .ref gh, .ref gd, .int wA, .int wB, .int wU]))]) hE ⟨hx, hb, hml, hown, hts⟩ (c_X0_layDown_yes l E s.heap.size gh an ae af ac gm aa ab ao ag ar sh rg fo fg fr gl a1 a2 n th To Bo ps cov cd tg szz Nu Ex Fw Ch (hs1) (hs4) (hr8) (hn) (hth) (hPA) (hb0)) (cwV 2 hts gX8_strange_X0_layDown rfl rfl rfl (by decide +kernel) ⟨Nat.le_of_ble_eq_true rfl, Nat.le_of_ble_eq_true rfl⟩) hP hD hS hA [1, 2, 3, 4, 5, 6, 7, 8, 9, 10, 11, 12] [0] rfl rfl (by decide) (by decide) (by decide) 0 0 rfl rfl rfl hl.1 rfl (Nat.le_of_ble_eq_true rfl) dX8_strange_12 ⟨(Nat.zero_le _), (Nat.zero_le _)⟩ (fun u H locs hw hP hD hS => ?_)
  obtain ⟨N2_12, X2_12, F2_12, C2_12⟩ := u
  have hP : va_P E.1 vwCl ([(g0, .inr (8, [.ref gm, .ref gk, .ref gs, .ref ga, .ref gl, .ref gh, .ref gd, .int wA, .int wB, .int wU])), (gh, .inr (0, [.ref an, .ref ae, .ref af, .ref ac, .int (nI (esC cov).length), .int (nI (orC cov 39)), .int (nI (hpR cov).length), .int 1])), (an, .inl (E.2 1, 39, .inl (nA N2_12))), (ae, .inl (E.2 1, 39, .inl (nA X2_12))), (af, .inl (E.2 0, 4096, .inl (nA F2_12))), (ac, .inl (E.2 1, 12, .inl (nA C2_12))), (gm, .inr (3, [.ref aa, .ref ab, .ref ao, .ref ag, .ref ar, .int (nI sh), .int (nI rg)])), (ao, .inl (E.2 4, 4, .inr (.inr (.inr (.inr fo))))), (ag, .inl (E.2 4, 4, .inr (.inr (.inr (.inr fg))))), (ar, .inl (E.2 4, 32, .inr (.inr (.inr (.inr fr))))), (gl, .inr (1, [.ref a1, .ref a2, .int (nI n), .int (nI th)])), (a1, .inl (E.2 1, 12, .inl To)), (a2, .inl (E.2 1, 12, .inl Bo))] ++ poolC E ps) H := hP
  have hD : va_D A ([(g0, .inr (8, [.ref gm, .ref gk, .ref gs, .ref ga, .ref gl, .ref gh, .ref gd, .int wA, .int wB, .int wU])), (gh, .inr (0, [.ref an, .ref ae, .ref af, .ref ac, .int (nI (esC cov).length), .int (nI (orC cov 39)), .int (nI (hpR cov).length), .int 1])), (an, .inl (E.2 1, 39, .inl (nA N2_12))), (ae, .inl (E.2 1, 39, .inl (nA X2_12))), (af, .inl (E.2 0, 4096, .inl (nA F2_12))), (ac, .inl (E.2 1, 12, .inl (nA C2_12))), (gm, .inr (3, [.ref aa, .ref ab, .ref ao, .ref ag, .ref ar, .int (nI sh), .int (nI rg)])), (ao, .inl (E.2 4, 4, .inr (.inr (.inr (.inr fo))))), (ag, .inl (E.2 4, 4, .inr (.inr (.inr (.inr fg))))), (ar, .inl (E.2 4, 32, .inr (.inr (.inr (.inr fr))))), (gl, .inr (1, [.ref a1, .ref a2, .int (nI n), .int (nI th)])), (a1, .inl (E.2 1, 12, .inl To)), (a2, .inl (E.2 1, 12, .inl Bo))] ++ poolC E ps) := hD
  have hm_12 := hw
  refine lv_aload_n hx hb dX8_strange_15 rfl (lv_at hl 0 rfl) ?_
  refine va_get (D := E.1) (ci := 8) (v := .ref gl) (C := RX8) (T := TX8) (N := 10) hx hb hts hinX8 hown hK hP 0 rfl rfl 4 (by decide) (hts (.fieldLink RX8 39 "WornRings" "lines" "LWornRings$Lines;") (by decide +kernel)) (fun _ h9 => h9) rfl dX8_strange_16 ?_
  refine rVi hE ⟨hx, hb, hml, hown, hts⟩ (c_X1_allBits l E gl a1 a2 n th To Bo (hn)) (cwV 0 hts gX8_strange_X1_allBits rfl rfl rfl (by decide +kernel) ⟨Nat.le_of_ble_eq_true rfl, Nat.le_of_ble_eq_true rfl⟩) (hP.sub [10, 11, 12] rfl) 0 1 rfl rfl rfl hl.1 rfl (Nat.le_of_ble_eq_true rfl) dX8_strange_19 ⟨(Nat.zero_le _), (Nat.zero_le _)⟩ ?_
  refine lv_aload_n hx hb dX8_strange_22 rfl (lv_at hl 0 rfl) ?_
  refine va_get (D := E.1) (ci := 8) (v := .ref gh) (C := RX8) (T := TX8) (N := 10) hx hb hts hinX8 hown hK hP 0 rfl rfl 5 (by decide) (hts (.fieldLink RX8 46 "WornRings" "fewestParts" "LWornRings$Heap;") (by decide +kernel)) (fun _ h9 => h9) rfl dX8_strange_23 ?_
  refine va_getN (D := E.1) (host := "WornRings") (ref := "WornRings$Heap") (ci := 0) (v := .int (nI (orC cov 39))) (C := RX0) (T := TX0) (N := 8) hx hb hts hinX0 hown hK hP 1 rfl rfl 5 (by decide) (va_Nw.use rfl (hNN (.fieldLinkNest RX8 209 "WornRings$Heap" "together" "I" "WornRings") (by decide +kernel))) (fun _ h9 => h9) rfl dX8_strange_26 ?_
  refine lv_iconst (v := (-1)) hx hb dX8_strange_29 (by decide) ?_
  refine lv_ixor hx hb dX8_strange_30 ?_
  refine lv_iand hx hb dX8_strange_31 ?_
  have hP9 : va_P E.1 vwCl ([(g0, .inr (8, [.ref gm, .ref gk, .ref gs, .ref ga, .ref gl, .ref gh, .ref gd, .int wA, .int wB, .int wU])), (gh, .inr (0, [.ref an, .ref ae, .ref af, .ref ac, .int (nI (esC cov).length), .int (nI (orC cov 39)), .int (nI (hpR cov).length), .int 1])), (an, .inl (E.2 1, 39, .inl (nA N2_12))), (ae, .inl (E.2 1, 39, .inl (nA X2_12))), (af, .inl (E.2 0, 4096, .inl (nA F2_12))), (ac, .inl (E.2 1, 12, .inl (nA C2_12))), (gm, .inr (3, [.ref aa, .ref ab, .ref ao, .ref ag, .ref ar, .int (nI sh), .int (nI rg)])), (ao, .inl (E.2 4, 4, .inr (.inr (.inr (.inr fo))))), (ag, .inl (E.2 4, 4, .inr (.inr (.inr (.inr fg))))), (ar, .inl (E.2 4, 32, .inr (.inr (.inr (.inr fr))))), (gl, .inr (1, [.ref a1, .ref a2, .int (nI n), .int (nI th)])), (a1, .inl (E.2 1, 12, .inl To)), (a2, .inl (E.2 1, 12, .inl Bo))] ++ poolC E ps) H := hP.part [0, 1, 2, 3, 4, 5, 6, 7, 8, 9, 10, 11, 12] rfl
  have hD9 : va_D A ([(g0, .inr (8, [.ref gm, .ref gk, .ref gs, .ref ga, .ref gl, .ref gh, .ref gd, .int wA, .int wB, .int wU])), (gh, .inr (0, [.ref an, .ref ae, .ref af, .ref ac, .int (nI (esC cov).length), .int (nI (orC cov 39)), .int (nI (hpR cov).length), .int 1])), (an, .inl (E.2 1, 39, .inl (nA N2_12))), (ae, .inl (E.2 1, 39, .inl (nA X2_12))), (af, .inl (E.2 0, 4096, .inl (nA F2_12))), (ac, .inl (E.2 1, 12, .inl (nA C2_12))), (gm, .inr (3, [.ref aa, .ref ab, .ref ao, .ref ag, .ref ar, .int (nI sh), .int (nI rg)])), (ao, .inl (E.2 4, 4, .inr (.inr (.inr (.inr fo))))), (ag, .inl (E.2 4, 4, .inr (.inr (.inr (.inr fg))))), (ar, .inl (E.2 4, 32, .inr (.inr (.inr (.inr fr))))), (gl, .inr (1, [.ref a1, .ref a2, .int (nI n), .int (nI th)])), (a1, .inl (E.2 1, 12, .inl To)), (a2, .inl (E.2 1, 12, .inl Bo))] ++ poolC E ps) := hD.part [0, 1, 2, 3, 4, 5, 6, 7, 8, 9, 10, 11, 12] (by decide) rfl
  exact W.iret (v := (nI (2 ^ n - 1)) &&& ((nI (orC cov 39)) ^^^ (-1))) hx hb hr (fun t9 ht9 hW9 => ⟨⟨(nI (2 ^ n - 1)) &&& ((nI (orC cov 39)) ^^^ (-1)), (N2_12, X2_12, F2_12, C2_12), rfl, ⟨xx_diff _ _, hm_12⟩, ⟨by rw [ht9]; exact hP9, hD9⟩⟩, hS.F ht9⟩) hS.2.2 dX8_strange_32
set_option maxHeartbeats 1000000 in
set_option maxRecDepth 100000 in
theorem c_X8_laws_no (l : Launch) (E : EnvT) (sz : Nat) (g0 : Nat) (gm : Nat) (gk : Nat) (gs : Nat) (ga : Nat) (gl : Nat) (gh : Nat) (gd : Nat) (wA : Int32) (wB : Int32) (wU : Int32) (la : Int32) (lb : Int32) (lu : Int32) (hno : ¬ ((1 ≤ la ∧ la ≤ 1000) ∧ (1 ≤ lb ∧ lb ≤ la) ∧ (1 ≤ lu ∧ lu ≤ 4))) : Met l yX8_laws wsX8_laws ({ frames := 1, cells := 0, slots := 0, locals := 22 }) (va_Pc [.ref g0, .int la, .int lb, .int lu] (PW E [(g0, .inr (8, [.ref gm, .ref gk, .ref gs, .ref ga, .ref gl, .ref gh, .ref gd, .int wA, .int wB, .int wU]))] sz)) (va_Qi (fun (r : Int32) (uu : Unit) => r = -1) (fun (uu : Unit) t => BW E (va_A [(g0, .inr (8, [.ref gm, .ref gk, .ref gs, .ref ga, .ref gl, .ref gh, .ref gd, .int wA, .int wB, .int wU]))] sz) [(g0, .inr (8, [.ref gm, .ref gk, .ref gs, .ref ga, .ref gl, .ref gh, .ref gd, .int wA, .int wB, .int wU]))] t) (va_A [(g0, .inr (8, [.ref gm, .ref gk, .ref gs, .ref ga, .ref gl, .ref gh, .ref gd, .int wA, .int wB, .int wU]))] sz)) 0 0 (va_A [(g0, .inr (8, [.ref gm, .ref gk, .ref gs, .ref ga, .ref gl, .ref gh, .ref gd, .int wA, .int wB, .int wU]))] sz) := by
  refine Met.ofW (cc := cX8_laws) (maxL := 4) (ret := (some .int)) (by decide +kernel) rfl ?_
  intro p e s m args below meth c s₁ B hml hv
  obtain ⟨rfl, hsz, hP, hE, hD0⟩ := hv
  have hx := B.exec
  have hb := B.bytes
  have hr := B.returns
  have hts := atoms_spec (ws := wsX8_laws) B.pre
  have hown : s.vm.findClass RX8 = some m.cls := findClass_of_methodNamed B.named
  have hlocks := B.notSynchronized
  have hK := hE.1
  have hNN := hE.2.1
  subst hsz
  have hD := hD0.self (sz := s.heap.size)
  generalize hAe : va_A [(g0, .inr (8, [.ref gm, .ref gk, .ref gs, .ref ga, .ref gl, .ref gh, .ref gd, .int wA, .int wB, .int wU]))] s.heap.size = A at hD ⊢
  have hA : ∀ q : Nat, s.heap.size ≤ q → A q := fun q h => by rw [← hAe]; exact Or.inr h
  have hS : va_S A s.heap s.heap [] := va_S.rf
  have hl := lv_entry ([.ref g0, .int la, .int lb, .int lu]) (n := 4) (Nat.le_of_ble_eq_true rfl)
  rw [lg_entry_eq]
  generalize (lg_sl ([.ref g0, .int la, .int lb, .int lu]) ++ List.replicate (4 - (lg_sl ([.ref g0, .int la, .int lb, .int lu])).length) Slot.unset).toArray = ls at hl ⊢
  have hl : lv_has ls 4 [(0, .ref g0), (1, .int la), (2, .int lb), (3, .int lu)] := hl
  refine lv_iload_n hx hb dX8_laws_0 rfl (lv_at hl 1 rfl) ?_
  refine lv_iconst (v := 1) hx hb dX8_laws_1 (by decide) ?_
  refine lv_sipush (v := 1000) hx hb dX8_laws_2 (by decide) ?_
  refine rSi hE ⟨hx, hb, hml, hown, hts⟩ (c_X8_within l E la 1 1000 ) (va_cwS 3 hts gX8_laws_X8_within rfl rfl rfl (by decide +kernel) ⟨Nat.le_of_ble_eq_true rfl, Nat.le_of_ble_eq_true rfl⟩) (hP.sub [] rfl) rfl hl.1 rfl (Nat.le_of_ble_eq_true rfl) dX8_laws_5 ⟨(Nat.zero_le _), (Nat.zero_le _)⟩ ?_
  refine lv_if_eq (tgt := 29) hx hb dX8_laws_8 (by decide) (fun c_8 => ?_) (fun c_8 => ?_)
  · have c_8 := fWi_0 c_8
    refine lv_iconst (v := (-1)) hx hb dX8_laws_29 (by decide) ?_
    have hP9 : va_P E.1 vwCl [(g0, .inr (8, [.ref gm, .ref gk, .ref gs, .ref ga, .ref gl, .ref gh, .ref gd, .int wA, .int wB, .int wU]))] s.heap := hP.sub [0] rfl
    have hD9 : va_D A [(g0, .inr (8, [.ref gm, .ref gk, .ref gs, .ref ga, .ref gl, .ref gh, .ref gd, .int wA, .int wB, .int wU]))] := hD.sub [0] (by decide) rfl
    exact W.iret (v := (-1)) hx hb hr (fun t9 ht9 hW9 => ⟨⟨(-1), (), rfl, rfl, ⟨by rw [ht9]; exact hP9, hD9⟩⟩, hS.F ht9⟩) hS.2.2 dX8_laws_30
  · have c_8 := fWi_1 c_8
    refine lv_iload_n hx hb dX8_laws_11 rfl (lv_at hl 2 rfl) ?_
    refine lv_iconst (v := 1) hx hb dX8_laws_12 (by decide) ?_
    refine lv_iload_n hx hb dX8_laws_13 rfl (lv_at hl 1 rfl) ?_
    refine rSi hE ⟨hx, hb, hml, hown, hts⟩ (c_X8_within l E lb 1 la ) (va_cwS 3 hts gX8_laws_X8_within rfl rfl rfl (by decide +kernel) ⟨Nat.le_of_ble_eq_true rfl, Nat.le_of_ble_eq_true rfl⟩) (hP.sub [] rfl) rfl hl.1 rfl (Nat.le_of_ble_eq_true rfl) dX8_laws_14 ⟨(Nat.zero_le _), (Nat.zero_le _)⟩ ?_
    refine lv_if_eq (tgt := 29) hx hb dX8_laws_17 (by decide) (fun c_17 => ?_) (fun c_17 => ?_)
    · have c_17 := fWi_0 c_17
      refine lv_iconst (v := (-1)) hx hb dX8_laws_29 (by decide) ?_
      have hP9 : va_P E.1 vwCl [(g0, .inr (8, [.ref gm, .ref gk, .ref gs, .ref ga, .ref gl, .ref gh, .ref gd, .int wA, .int wB, .int wU]))] s.heap := hP.sub [0] rfl
      have hD9 : va_D A [(g0, .inr (8, [.ref gm, .ref gk, .ref gs, .ref ga, .ref gl, .ref gh, .ref gd, .int wA, .int wB, .int wU]))] := hD.sub [0] (by decide) rfl
      exact W.iret (v := (-1)) hx hb hr (fun t9 ht9 hW9 => ⟨⟨(-1), (), rfl, rfl, ⟨by rw [ht9]; exact hP9, hD9⟩⟩, hS.F ht9⟩) hS.2.2 dX8_laws_30
    · have c_17 := fWi_1 c_17
      refine lv_iload_n hx hb dX8_laws_20 rfl (lv_at hl 3 rfl) ?_
      refine lv_iconst (v := 1) hx hb dX8_laws_21 (by decide) ?_
      refine lv_iconst (v := 4) hx hb dX8_laws_22 (by decide) ?_
      refine rSi hE ⟨hx, hb, hml, hown, hts⟩ (c_X8_within l E lu 1 4 ) (va_cwS 3 hts gX8_laws_X8_within rfl rfl rfl (by decide +kernel) ⟨Nat.le_of_ble_eq_true rfl, Nat.le_of_ble_eq_true rfl⟩) (hP.sub [] rfl) rfl hl.1 rfl (Nat.le_of_ble_eq_true rfl) dX8_laws_23 ⟨(Nat.zero_le _), (Nat.zero_le _)⟩ ?_
      refine lv_if_ne (tgt := 31) hx hb dX8_laws_26 (by decide) (fun c_26 => by exfalso; have c_26 := fWi_1 c_26; exact hno ⟨c_8, c_17, c_26⟩) (fun c_26 => ?_)
      have c_26 := fWi_0 c_26
      refine lv_iconst (v := (-1)) hx hb dX8_laws_29 (by decide) ?_
      have hP9 : va_P E.1 vwCl [(g0, .inr (8, [.ref gm, .ref gk, .ref gs, .ref ga, .ref gl, .ref gh, .ref gd, .int wA, .int wB, .int wU]))] s.heap := hP.sub [0] rfl
      have hD9 : va_D A [(g0, .inr (8, [.ref gm, .ref gk, .ref gs, .ref ga, .ref gl, .ref gh, .ref gd, .int wA, .int wB, .int wU]))] := hD.sub [0] (by decide) rfl
      exact W.iret (v := (-1)) hx hb hr (fun t9 ht9 hW9 => ⟨⟨(-1), (), rfl, rfl, ⟨by rw [ht9]; exact hP9, hD9⟩⟩, hS.F ht9⟩) hS.2.2 dX8_laws_30
set_option maxHeartbeats 1000000 in
set_option maxRecDepth 100000 in
theorem c_X8_laws_yes (l : Launch) (E : EnvT) (sz : Nat) (g0 : Nat) (gm : Nat) (gk : Nat) (gs : Nat) (ga : Nat) (gl : Nat) (gh : Nat) (gd : Nat) (wA : Int32) (wB : Int32) (wU : Int32) (la : Int32) (lb : Int32) (lu : Int32) (hy : (1 ≤ la ∧ la ≤ 1000) ∧ (1 ≤ lb ∧ lb ≤ la) ∧ (1 ≤ lu ∧ lu ≤ 4)) : Met l yX8_laws wsX8_laws ({ frames := 1, cells := 0, slots := 0, locals := 22 }) (va_Pc [.ref g0, .int la, .int lb, .int lu] (PW E [(g0, .inr (8, [.ref gm, .ref gk, .ref gs, .ref ga, .ref gl, .ref gh, .ref gd, .int wA, .int wB, .int wU]))] sz)) (va_Qi (fun (r : Int32) (uu : Unit) => r = 1) (fun (uu : Unit) t => BW E (va_A [(g0, .inr (8, [.ref gm, .ref gk, .ref gs, .ref ga, .ref gl, .ref gh, .ref gd, .int wA, .int wB, .int wU]))] sz) [(g0, .inr (8, [.ref gm, .ref gk, .ref gs, .ref ga, .ref gl, .ref gh, .ref gd, .int la, .int lb, .int lu]))] t) (va_A [(g0, .inr (8, [.ref gm, .ref gk, .ref gs, .ref ga, .ref gl, .ref gh, .ref gd, .int wA, .int wB, .int wU]))] sz)) 0 0 (va_A [(g0, .inr (8, [.ref gm, .ref gk, .ref gs, .ref ga, .ref gl, .ref gh, .ref gd, .int wA, .int wB, .int wU]))] sz) := by
  refine Met.ofW (cc := cX8_laws) (maxL := 4) (ret := (some .int)) (by decide +kernel) rfl ?_
  intro p e s m args below meth c s₁ B hml hv
  obtain ⟨rfl, hsz, hP, hE, hD0⟩ := hv
  have hx := B.exec
  have hb := B.bytes
  have hr := B.returns
  have hts := atoms_spec (ws := wsX8_laws) B.pre
  have hown : s.vm.findClass RX8 = some m.cls := findClass_of_methodNamed B.named
  have hlocks := B.notSynchronized
  have hK := hE.1
  have hNN := hE.2.1
  have hinX8 : ∀ w ∈ wsX80, w ∈ wsX8_laws := fun w h => List.mem_cons_of_mem _ (List.mem_append_right _ h)
  subst hsz
  have hD := hD0.self (sz := s.heap.size)
  generalize hAe : va_A [(g0, .inr (8, [.ref gm, .ref gk, .ref gs, .ref ga, .ref gl, .ref gh, .ref gd, .int wA, .int wB, .int wU]))] s.heap.size = A at hD ⊢
  have hA : ∀ q : Nat, s.heap.size ≤ q → A q := fun q h => by rw [← hAe]; exact Or.inr h
  have hS : va_S A s.heap s.heap [] := va_S.rf
  have hl := lv_entry ([.ref g0, .int la, .int lb, .int lu]) (n := 4) (Nat.le_of_ble_eq_true rfl)
  rw [lg_entry_eq]
  generalize (lg_sl ([.ref g0, .int la, .int lb, .int lu]) ++ List.replicate (4 - (lg_sl ([.ref g0, .int la, .int lb, .int lu])).length) Slot.unset).toArray = ls at hl ⊢
  have hl : lv_has ls 4 [(0, .ref g0), (1, .int la), (2, .int lb), (3, .int lu)] := hl
  refine lv_iload_n hx hb dX8_laws_0 rfl (lv_at hl 1 rfl) ?_
  refine lv_iconst (v := 1) hx hb dX8_laws_1 (by decide) ?_
  refine lv_sipush (v := 1000) hx hb dX8_laws_2 (by decide) ?_
  refine rSi hE ⟨hx, hb, hml, hown, hts⟩ (c_X8_within l E la 1 1000 ) (va_cwS 3 hts gX8_laws_X8_within rfl rfl rfl (by decide +kernel) ⟨Nat.le_of_ble_eq_true rfl, Nat.le_of_ble_eq_true rfl⟩) (hP.sub [] rfl) rfl hl.1 rfl (Nat.le_of_ble_eq_true rfl) dX8_laws_5 ⟨(Nat.zero_le _), (Nat.zero_le _)⟩ ?_
  refine lv_if_eq (tgt := 29) hx hb dX8_laws_8 (by decide) (fun c_8 => by exfalso; have c_8 := fWi_0 c_8; exact c_8 hy.1) (fun c_8 => ?_)
  have c_8 := fWi_1 c_8
  refine lv_iload_n hx hb dX8_laws_11 rfl (lv_at hl 2 rfl) ?_
  refine lv_iconst (v := 1) hx hb dX8_laws_12 (by decide) ?_
  refine lv_iload_n hx hb dX8_laws_13 rfl (lv_at hl 1 rfl) ?_
  refine rSi hE ⟨hx, hb, hml, hown, hts⟩ (c_X8_within l E lb 1 la ) (va_cwS 3 hts gX8_laws_X8_within rfl rfl rfl (by decide +kernel) ⟨Nat.le_of_ble_eq_true rfl, Nat.le_of_ble_eq_true rfl⟩) (hP.sub [] rfl) rfl hl.1 rfl (Nat.le_of_ble_eq_true rfl) dX8_laws_14 ⟨(Nat.zero_le _), (Nat.zero_le _)⟩ ?_
  refine lv_if_eq (tgt := 29) hx hb dX8_laws_17 (by decide) (fun c_17 => by exfalso; have c_17 := fWi_0 c_17; exact c_17 hy.2.1) (fun c_17 => ?_)
  have c_17 := fWi_1 c_17
  refine lv_iload_n hx hb dX8_laws_20 rfl (lv_at hl 3 rfl) ?_
  refine lv_iconst (v := 1) hx hb dX8_laws_21 (by decide) ?_
  refine lv_iconst (v := 4) hx hb dX8_laws_22 (by decide) ?_
  refine rSi hE ⟨hx, hb, hml, hown, hts⟩ (c_X8_within l E lu 1 4 ) (va_cwS 3 hts gX8_laws_X8_within rfl rfl rfl (by decide +kernel) ⟨Nat.le_of_ble_eq_true rfl, Nat.le_of_ble_eq_true rfl⟩) (hP.sub [] rfl) rfl hl.1 rfl (Nat.le_of_ble_eq_true rfl) dX8_laws_23 ⟨(Nat.zero_le _), (Nat.zero_le _)⟩ ?_
  refine lv_if_ne (tgt := 31) hx hb dX8_laws_26 (by decide) (fun c_26 => ?_) (fun c_26 => by exfalso; have c_26 := fWi_0 c_26; exact c_26 hy.2.2)
  have c_26 := fWi_1 c_26
  refine lv_aload_n hx hb dX8_laws_31 rfl (lv_at hl 0 rfl) ?_
  refine lv_iload_n hx hb dX8_laws_32 rfl (lv_at hl 1 rfl) ?_
  refine va_put (D := E.1) (ci := 8) (v := .int la) (ty := .int) (C := RX8) (T := TX8) (N := 10) hx hb hts hinX8 tyX8 tyX8_ok nmX8 hown hK hP hD hS 0 rfl rfl 7 (by decide) (hts (.fieldLink RX8 56 "WornRings" "warnAbove" "I") (by decide +kernel)) (fun _ h9 => h9) rfl (by decide +kernel) (rfl) (rfl) (Nat.le_of_ble_eq_true rfl) dX8_laws_33 (fun H locs hP hD hS => ?_)
  have hP : va_P E.1 vwCl [(g0, .inr (8, [.ref gm, .ref gk, .ref gs, .ref ga, .ref gl, .ref gh, .ref gd, .int la, .int wB, .int wU]))] H := hP
  have hD : va_D A [(g0, .inr (8, [.ref gm, .ref gk, .ref gs, .ref ga, .ref gl, .ref gh, .ref gd, .int la, .int wB, .int wU]))] := hD
  refine lv_aload_n hx hb dX8_laws_36 rfl (lv_at hl 0 rfl) ?_
  refine lv_iload_n hx hb dX8_laws_37 rfl (lv_at hl 2 rfl) ?_
  refine va_put (D := E.1) (ci := 8) (v := .int lb) (ty := .int) (C := RX8) (T := TX8) (N := 10) hx hb hts hinX8 tyX8 tyX8_ok nmX8 hown hK hP hD hS 0 rfl rfl 8 (by decide) (hts (.fieldLink RX8 60 "WornRings" "calmBelow" "I") (by decide +kernel)) (fun _ h9 => h9) rfl (by decide +kernel) (rfl) (rfl) (Nat.le_of_ble_eq_true rfl) dX8_laws_38 (fun H locs hP hD hS => ?_)
  have hP : va_P E.1 vwCl [(g0, .inr (8, [.ref gm, .ref gk, .ref gs, .ref ga, .ref gl, .ref gh, .ref gd, .int la, .int lb, .int wU]))] H := hP
  have hD : va_D A [(g0, .inr (8, [.ref gm, .ref gk, .ref gs, .ref ga, .ref gl, .ref gh, .ref gd, .int la, .int lb, .int wU]))] := hD
  refine lv_aload_n hx hb dX8_laws_41 rfl (lv_at hl 0 rfl) ?_
  refine lv_iload_n hx hb dX8_laws_42 rfl (lv_at hl 3 rfl) ?_
  refine va_put (D := E.1) (ci := 8) (v := .int lu) (ty := .int) (C := RX8) (T := TX8) (N := 10) hx hb hts hinX8 tyX8 tyX8_ok nmX8 hown hK hP hD hS 0 rfl rfl 9 (by decide) (hts (.fieldLink RX8 63 "WornRings" "latest" "I") (by decide +kernel)) (fun _ h9 => h9) rfl (by decide +kernel) (rfl) (rfl) (Nat.le_of_ble_eq_true rfl) dX8_laws_43 (fun H locs hP hD hS => ?_)
  have hP : va_P E.1 vwCl [(g0, .inr (8, [.ref gm, .ref gk, .ref gs, .ref ga, .ref gl, .ref gh, .ref gd, .int la, .int lb, .int lu]))] H := hP
  have hD : va_D A [(g0, .inr (8, [.ref gm, .ref gk, .ref gs, .ref ga, .ref gl, .ref gh, .ref gd, .int la, .int lb, .int lu]))] := hD
  refine lv_iconst (v := 1) hx hb dX8_laws_46 (by decide) ?_
  have hP9 : va_P E.1 vwCl [(g0, .inr (8, [.ref gm, .ref gk, .ref gs, .ref ga, .ref gl, .ref gh, .ref gd, .int la, .int lb, .int lu]))] H := hP.sub [0] rfl
  have hD9 : va_D A [(g0, .inr (8, [.ref gm, .ref gk, .ref gs, .ref ga, .ref gl, .ref gh, .ref gd, .int la, .int lb, .int lu]))] := hD.sub [0] (by decide) rfl
  exact W.iret (v := 1) hx hb hr (fun t9 ht9 hW9 => ⟨⟨1, (), rfl, rfl, ⟨by rw [ht9]; exact hP9, hD9⟩⟩, hS.F ht9⟩) hS.2.2 dX8_laws_47
set_option maxHeartbeats 1000000 in
set_option maxRecDepth 100000 in
theorem c_X8_reading_no (l : Launch) (E : EnvT) (sz : Nat) (g0 : Nat) (gm : Nat) (gk : Nat) (gs : Nat) (ga : Nat) (gl : Nat) (gh : Nat) (gd : Nat) (wA : Int32) (wB : Int32) (wU : Int32) (sv : Int32) (v : Int32) (hno : ¬ ((0 ≤ sv ∧ sv ≤ 3) ∧ (0 ≤ v ∧ v ≤ 1000000))) : Met l yX8_reading wsX8_reading ({ frames := 1, cells := 0, slots := 0, locals := 22 }) (va_Pc [.ref g0, .int sv, .int v] (PW E [(g0, .inr (8, [.ref gm, .ref gk, .ref gs, .ref ga, .ref gl, .ref gh, .ref gd, .int wA, .int wB, .int wU]))] sz)) (va_Qi (fun (r : Int32) (uu : Unit) => r = -1) (fun (uu : Unit) t => BW E (va_A [(g0, .inr (8, [.ref gm, .ref gk, .ref gs, .ref ga, .ref gl, .ref gh, .ref gd, .int wA, .int wB, .int wU]))] sz) [(g0, .inr (8, [.ref gm, .ref gk, .ref gs, .ref ga, .ref gl, .ref gh, .ref gd, .int wA, .int wB, .int wU]))] t) (va_A [(g0, .inr (8, [.ref gm, .ref gk, .ref gs, .ref ga, .ref gl, .ref gh, .ref gd, .int wA, .int wB, .int wU]))] sz)) 0 0 (va_A [(g0, .inr (8, [.ref gm, .ref gk, .ref gs, .ref ga, .ref gl, .ref gh, .ref gd, .int wA, .int wB, .int wU]))] sz) := by
  refine Met.ofW (cc := cX8_reading) (maxL := 4) (ret := (some .int)) (by decide +kernel) rfl ?_
  intro p e s m args below meth c s₁ B hml hv
  obtain ⟨rfl, hsz, hP, hE, hD0⟩ := hv
  have hx := B.exec
  have hb := B.bytes
  have hr := B.returns
  have hts := atoms_spec (ws := wsX8_reading) B.pre
  have hown : s.vm.findClass RX8 = some m.cls := findClass_of_methodNamed B.named
  have hlocks := B.notSynchronized
  have hK := hE.1
  have hNN := hE.2.1
  subst hsz
  have hD := hD0.self (sz := s.heap.size)
  generalize hAe : va_A [(g0, .inr (8, [.ref gm, .ref gk, .ref gs, .ref ga, .ref gl, .ref gh, .ref gd, .int wA, .int wB, .int wU]))] s.heap.size = A at hD ⊢
  have hA : ∀ q : Nat, s.heap.size ≤ q → A q := fun q h => by rw [← hAe]; exact Or.inr h
  have hS : va_S A s.heap s.heap [] := va_S.rf
  have hl := lv_entry ([.ref g0, .int sv, .int v]) (n := 4) (Nat.le_of_ble_eq_true rfl)
  rw [lg_entry_eq]
  generalize (lg_sl ([.ref g0, .int sv, .int v]) ++ List.replicate (4 - (lg_sl ([.ref g0, .int sv, .int v])).length) Slot.unset).toArray = ls at hl ⊢
  have hl : lv_has ls 4 [(0, .ref g0), (1, .int sv), (2, .int v)] := hl
  refine lv_iload_n hx hb dX8_reading_0 rfl (lv_at hl 1 rfl) ?_
  refine lv_iconst (v := 0) hx hb dX8_reading_1 (by decide) ?_
  refine lv_iconst (v := 3) hx hb dX8_reading_2 (by decide) ?_
  refine rSi hE ⟨hx, hb, hml, hown, hts⟩ (c_X8_within l E sv 0 3 ) (va_cwS 3 hts gX8_reading_X8_within rfl rfl rfl (by decide +kernel) ⟨Nat.le_of_ble_eq_true rfl, Nat.le_of_ble_eq_true rfl⟩) (hP.sub [] rfl) rfl hl.1 rfl (Nat.le_of_ble_eq_true rfl) dX8_reading_3 ⟨(Nat.zero_le _), (Nat.zero_le _)⟩ ?_
  refine lv_if_eq (tgt := 19) hx hb dX8_reading_6 (by decide) (fun c_6 => ?_) (fun c_6 => ?_)
  · have c_6 := fWi_0 c_6
    refine lv_iconst (v := (-1)) hx hb dX8_reading_19 (by decide) ?_
    have hP9 : va_P E.1 vwCl [(g0, .inr (8, [.ref gm, .ref gk, .ref gs, .ref ga, .ref gl, .ref gh, .ref gd, .int wA, .int wB, .int wU]))] s.heap := hP.sub [0] rfl
    have hD9 : va_D A [(g0, .inr (8, [.ref gm, .ref gk, .ref gs, .ref ga, .ref gl, .ref gh, .ref gd, .int wA, .int wB, .int wU]))] := hD.sub [0] (by decide) rfl
    exact W.iret (v := (-1)) hx hb hr (fun t9 ht9 hW9 => ⟨⟨(-1), (), rfl, rfl, ⟨by rw [ht9]; exact hP9, hD9⟩⟩, hS.F ht9⟩) hS.2.2 dX8_reading_20
  · have c_6 := fWi_1 c_6
    refine lv_iload_n hx hb dX8_reading_9 rfl (lv_at hl 2 rfl) ?_
    refine lv_iconst (v := 0) hx hb dX8_reading_10 (by decide) ?_
    refine lv_ldc (v := 1000000) hx hb hown (hts (.constant RX8 212 (1000000)) (by decide +kernel)) dX8_reading_11 ?_
    refine rSi hE ⟨hx, hb, hml, hown, hts⟩ (c_X8_within l E v 0 1000000 ) (va_cwS 3 hts gX8_reading_X8_within rfl rfl rfl (by decide +kernel) ⟨Nat.le_of_ble_eq_true rfl, Nat.le_of_ble_eq_true rfl⟩) (hP.sub [] rfl) rfl hl.1 rfl (Nat.le_of_ble_eq_true rfl) dX8_reading_13 ⟨(Nat.zero_le _), (Nat.zero_le _)⟩ ?_
    refine lv_if_ne (tgt := 21) hx hb dX8_reading_16 (by decide) (fun c_16 => by exfalso; have c_16 := fWi_1 c_16; exact hno ⟨c_6, c_16⟩) (fun c_16 => ?_)
    have c_16 := fWi_0 c_16
    refine lv_iconst (v := (-1)) hx hb dX8_reading_19 (by decide) ?_
    have hP9 : va_P E.1 vwCl [(g0, .inr (8, [.ref gm, .ref gk, .ref gs, .ref ga, .ref gl, .ref gh, .ref gd, .int wA, .int wB, .int wU]))] s.heap := hP.sub [0] rfl
    have hD9 : va_D A [(g0, .inr (8, [.ref gm, .ref gk, .ref gs, .ref ga, .ref gl, .ref gh, .ref gd, .int wA, .int wB, .int wU]))] := hD.sub [0] (by decide) rfl
    exact W.iret (v := (-1)) hx hb hr (fun t9 ht9 hW9 => ⟨⟨(-1), (), rfl, rfl, ⟨by rw [ht9]; exact hP9, hD9⟩⟩, hS.F ht9⟩) hS.2.2 dX8_reading_20
set_option maxHeartbeats 1000000 in
set_option maxRecDepth 100000 in
theorem c_X8_reading_full (l : Launch) (E : EnvT) (sz : Nat) (g0 : Nat) (gm : Nat) (gk : Nat) (gs : Nat) (ga : Nat) (gl : Nat) (gh : Nat) (gd : Nat) (wA : Int32) (wB : Int32) (wU : Int32) (fd : Nat → Option Nat) (q1 : Nat) (a1 : Nat) (k : Nat) (mid : Int32) (wr : Int32) (f : Nat → Int32) (kk : Nat) (v : Int32) (hk4 : kk < 4) (hq : fd kk = some q1) (hv : 0 ≤ v ∧ v ≤ 1000000) (hk : 200 ≤ k) (hk2 : k ≤ 200) : Met l yX8_reading wsX8_reading ({ frames := 1, cells := 0, slots := 0, locals := 22 }) (va_Pc [.ref g0, .int (nI kk), .int v] (PW E [(g0, .inr (8, [.ref gm, .ref gk, .ref gs, .ref ga, .ref gl, .ref gh, .ref gd, .int wA, .int wB, .int wU])), (gd, .inl (E.2 6, 4, .inr (.inr (.inr (.inr fd))))), (q1, .inr (2, [.ref a1, .int (nI k), .int mid, .int wr])), (a1, .inl (E.2 1, 200, .inl f))] sz)) (va_Qi (fun (r : Int32) (uu : Unit) => r = -3) (fun (uu : Unit) t => BW E (va_A [(g0, .inr (8, [.ref gm, .ref gk, .ref gs, .ref ga, .ref gl, .ref gh, .ref gd, .int wA, .int wB, .int wU])), (gd, .inl (E.2 6, 4, .inr (.inr (.inr (.inr fd))))), (q1, .inr (2, [.ref a1, .int (nI k), .int mid, .int wr])), (a1, .inl (E.2 1, 200, .inl f))] sz) [(g0, .inr (8, [.ref gm, .ref gk, .ref gs, .ref ga, .ref gl, .ref gh, .ref gd, .int wA, .int wB, .int wU])), (gd, .inl (E.2 6, 4, .inr (.inr (.inr (.inr fd))))), (q1, .inr (2, [.ref a1, .int (nI k), .int mid, .int wr])), (a1, .inl (E.2 1, 200, .inl f))] t) (va_A [(g0, .inr (8, [.ref gm, .ref gk, .ref gs, .ref ga, .ref gl, .ref gh, .ref gd, .int wA, .int wB, .int wU])), (gd, .inl (E.2 6, 4, .inr (.inr (.inr (.inr fd))))), (q1, .inr (2, [.ref a1, .int (nI k), .int mid, .int wr])), (a1, .inl (E.2 1, 200, .inl f))] sz)) 0 0 (va_A [(g0, .inr (8, [.ref gm, .ref gk, .ref gs, .ref ga, .ref gl, .ref gh, .ref gd, .int wA, .int wB, .int wU])), (gd, .inl (E.2 6, 4, .inr (.inr (.inr (.inr fd))))), (q1, .inr (2, [.ref a1, .int (nI k), .int mid, .int wr])), (a1, .inl (E.2 1, 200, .inl f))] sz) := by
  refine Met.ofW (cc := cX8_reading) (maxL := 4) (ret := (some .int)) (by decide +kernel) rfl ?_
  intro p e s m args below meth c s₁ B hml hv
  obtain ⟨rfl, hsz, hP, hE, hD0⟩ := hv
  have hx := B.exec
  have hb := B.bytes
  have hr := B.returns
  have hts := atoms_spec (ws := wsX8_reading) B.pre
  have hown : s.vm.findClass RX8 = some m.cls := findClass_of_methodNamed B.named
  have hlocks := B.notSynchronized
  have hK := hE.1
  have hNN := hE.2.1
  have hinX8 : ∀ w ∈ wsX80, w ∈ wsX8_reading := fun w h => List.mem_cons_of_mem _ (List.mem_append_left _ (List.mem_append_right _ h))
  have hinX2 : ∀ w ∈ wsX20, w ∈ wsX8_reading := fun w h => List.mem_cons_of_mem _ (List.mem_append_right _ h)
  subst hsz
  have hD := hD0.self (sz := s.heap.size)
  generalize hAe : va_A [(g0, .inr (8, [.ref gm, .ref gk, .ref gs, .ref ga, .ref gl, .ref gh, .ref gd, .int wA, .int wB, .int wU])), (gd, .inl (E.2 6, 4, .inr (.inr (.inr (.inr fd))))), (q1, .inr (2, [.ref a1, .int (nI k), .int mid, .int wr])), (a1, .inl (E.2 1, 200, .inl f))] s.heap.size = A at hD ⊢
  have hA : ∀ q : Nat, s.heap.size ≤ q → A q := fun q h => by rw [← hAe]; exact Or.inr h
  have hS : va_S A s.heap s.heap [] := va_S.rf
  have hl := lv_entry ([.ref g0, .int (nI kk), .int v]) (n := 4) (Nat.le_of_ble_eq_true rfl)
  rw [lg_entry_eq]
  generalize (lg_sl ([.ref g0, .int (nI kk), .int v]) ++ List.replicate (4 - (lg_sl ([.ref g0, .int (nI kk), .int v])).length) Slot.unset).toArray = ls at hl ⊢
  have hl : lv_has ls 4 [(0, .ref g0), (1, .int (nI kk)), (2, .int v)] := hl
  refine lv_iload_n hx hb dX8_reading_0 rfl (lv_at hl 1 rfl) ?_
  refine lv_iconst (v := 0) hx hb dX8_reading_1 (by decide) ?_
  refine lv_iconst (v := 3) hx hb dX8_reading_2 (by decide) ?_
  refine rSi hE ⟨hx, hb, hml, hown, hts⟩ (c_X8_within l E (nI kk) 0 3 ) (va_cwS 3 hts gX8_reading_X8_within rfl rfl rfl (by decide +kernel) ⟨Nat.le_of_ble_eq_true rfl, Nat.le_of_ble_eq_true rfl⟩) (hP.sub [] rfl) rfl hl.1 rfl (Nat.le_of_ble_eq_true rfl) dX8_reading_3 ⟨(Nat.zero_le _), (Nat.zero_le _)⟩ ?_
  refine lv_if_eq (tgt := 19) hx hb dX8_reading_6 (by decide) (fun c_6 => by exfalso; have c_6 := fWi_0 c_6; exact c_6 ⟨nI_pos' (by omega), nI_le (b := 3) (by omega) (by omega)⟩) (fun c_6 => ?_)
  have c_6 := fWi_1 c_6
  refine lv_iload_n hx hb dX8_reading_9 rfl (lv_at hl 2 rfl) ?_
  refine lv_iconst (v := 0) hx hb dX8_reading_10 (by decide) ?_
  refine lv_ldc (v := 1000000) hx hb hown (hts (.constant RX8 212 (1000000)) (by decide +kernel)) dX8_reading_11 ?_
  refine rSi hE ⟨hx, hb, hml, hown, hts⟩ (c_X8_within l E v 0 1000000 ) (va_cwS 3 hts gX8_reading_X8_within rfl rfl rfl (by decide +kernel) ⟨Nat.le_of_ble_eq_true rfl, Nat.le_of_ble_eq_true rfl⟩) (hP.sub [] rfl) rfl hl.1 rfl (Nat.le_of_ble_eq_true rfl) dX8_reading_13 ⟨(Nat.zero_le _), (Nat.zero_le _)⟩ ?_
  refine lv_if_ne (tgt := 21) hx hb dX8_reading_16 (by decide) (fun c_16 => ?_) (fun c_16 => by exfalso; have c_16 := fWi_0 c_16; exact c_16 hv)
  have c_16 := fWi_1 c_16
  refine lv_aload_n hx hb dX8_reading_21 rfl (lv_at hl 0 rfl) ?_
  refine va_get (D := E.1) (ci := 8) (v := .ref gd) (C := RX8) (T := TX8) (N := 10) hx hb hts hinX8 hown hK hP 0 rfl rfl 6 (by decide) (hts (.fieldLink RX8 52 "WornRings" "loads" "[LWornRings$Load;") (by decide +kernel)) (fun _ h9 => h9) rfl dX8_reading_22 ?_
  refine lv_iload_n hx hb dX8_reading_25 rfl (lv_at hl 1 rfl) ?_
  refine va_aldq hx hb hK hP 1 6 rfl rfl (vp_in_nI (by omega) (by omega)) dX8_reading_26 ?_
  rw [nI_clamp (n := kk) (by omega)]
  rw [hq]
  refine W.eq (g2 := F0 m 27 ls [.ref q1]) rfl ?_
  refine lv_astore_n (lv' := [(3, .ref q1), (0, .ref g0), (1, .int (nI kk)), (2, .int v)]) hx hb dX8_reading_27 rfl hl (by decide) rfl (fun ls hl => ?_)
  refine lv_aload_n hx hb dX8_reading_28 rfl (lv_at hl 0 rfl) ?_
  refine va_getN (D := E.1) (host := "WornRings") (ref := "WornRings$Load") (ci := 2) (v := .int (nI k)) (C := RX2) (T := TX2) (N := 4) hx hb hts hinX2 hown hK hP 2 rfl rfl 1 (by decide) (va_Nw.use rfl (hNN (.fieldLinkNest RX8 213 "WornRings$Load" "count" "I" "WornRings") (by decide +kernel))) (fun _ h9 => h9) rfl dX8_reading_29 ?_
  refine lv_sipush (v := 200) hx hb dX8_reading_32 (by decide) ?_
  refine lv_icmp_lt (tgt := 41) hx hb dX8_reading_35 (by decide) (fun c_35 => by exfalso; have c_35 : k < 200 := (nI_ltI (a := k) (b := 200) (by omega) (by omega)).mp c_35; omega) (fun c_35 => ?_)
  have c_35 : ¬ k < 200 := fun h9 => c_35 ((nI_ltI (a := k) (b := 200) (by omega) (by omega)).mpr h9)
  refine lv_bipush (v := (-3)) hx hb dX8_reading_38 (by decide) ?_
  have hP9 : va_P E.1 vwCl [(g0, .inr (8, [.ref gm, .ref gk, .ref gs, .ref ga, .ref gl, .ref gh, .ref gd, .int wA, .int wB, .int wU])), (gd, .inl (E.2 6, 4, .inr (.inr (.inr (.inr fd))))), (q1, .inr (2, [.ref a1, .int (nI k), .int mid, .int wr])), (a1, .inl (E.2 1, 200, .inl f))] s.heap := hP.sub [0, 1, 2, 3] rfl
  have hD9 : va_D A [(g0, .inr (8, [.ref gm, .ref gk, .ref gs, .ref ga, .ref gl, .ref gh, .ref gd, .int wA, .int wB, .int wU])), (gd, .inl (E.2 6, 4, .inr (.inr (.inr (.inr fd))))), (q1, .inr (2, [.ref a1, .int (nI k), .int mid, .int wr])), (a1, .inl (E.2 1, 200, .inl f))] := hD.sub [0, 1, 2, 3] (by decide) rfl
  exact W.iret (v := (-3)) hx hb hr (fun t9 ht9 hW9 => ⟨⟨(-3), (), rfl, rfl, ⟨by rw [ht9]; exact hP9, hD9⟩⟩, hS.F ht9⟩) hS.2.2 dX8_reading_40
set_option maxHeartbeats 1000000 in
set_option maxRecDepth 100000 in
theorem c_X8_reading_yes (l : Launch) (E : EnvT) (sz : Nat) (g0 : Nat) (gm : Nat) (gk : Nat) (gs : Nat) (ga : Nat) (gl : Nat) (gh : Nat) (gd : Nat) (wA : Int32) (wB : Int32) (un : Nat) (fd : Nat → Option Nat) (q1 : Nat) (a1 : Nat) (k : Nat) (mid : Int32) (wr : Int32) (f : Nat → Int32) (kk : Nat) (v : Int32) (hk4 : kk < 4) (hq : fd kk = some q1) (hv : 0 ≤ v ∧ v ≤ 1000000) (hk : k < 200) (hu1 : 1 ≤ un) (hu2 : un ≤ 4) : Met l yX8_reading wsX8_reading ({ frames := 3, cells := 0, slots := 0, locals := 66 }) (va_Pc [.ref g0, .int (nI kk), .int v] (PW E [(g0, .inr (8, [.ref gm, .ref gk, .ref gs, .ref ga, .ref gl, .ref gh, .ref gd, .int wA, .int wB, .int (nI un)])), (gd, .inl (E.2 6, 4, .inr (.inr (.inr (.inr fd))))), (q1, .inr (2, [.ref a1, .int (nI k), .int mid, .int wr])), (a1, .inl (E.2 1, 200, .inl f))] sz)) (va_Qi (fun (r : Int32) (uu : Unit) => r = nI (k + 1)) (fun (uu : Unit) t => BW E (va_A [(g0, .inr (8, [.ref gm, .ref gk, .ref gs, .ref ga, .ref gl, .ref gh, .ref gd, .int wA, .int wB, .int (nI un)])), (gd, .inl (E.2 6, 4, .inr (.inr (.inr (.inr fd))))), (q1, .inr (2, [.ref a1, .int (nI k), .int mid, .int wr])), (a1, .inl (E.2 1, 200, .inl f))] sz) [(g0, .inr (8, [.ref gm, .ref gk, .ref gs, .ref ga, .ref gl, .ref gh, .ref gd, .int wA, .int wB, .int (nI un)])), (gd, .inl (E.2 6, 4, .inr (.inr (.inr (.inr fd))))), (q1, .inr (2, [.ref a1, .int (nI (k + 1)), .int (if k + 1 = 5 then fMid (upd f k v) else mid), .int (fJud (upd f k v) (k + 1) un wA wB (if k + 1 = 5 then fMid (upd f k v) else mid) wr)])), (a1, .inl (E.2 1, 200, .inl (upd f k v)))] t) (va_A [(g0, .inr (8, [.ref gm, .ref gk, .ref gs, .ref ga, .ref gl, .ref gh, .ref gd, .int wA, .int wB, .int (nI un)])), (gd, .inl (E.2 6, 4, .inr (.inr (.inr (.inr fd))))), (q1, .inr (2, [.ref a1, .int (nI k), .int mid, .int wr])), (a1, .inl (E.2 1, 200, .inl f))] sz)) 0 0 (va_A [(g0, .inr (8, [.ref gm, .ref gk, .ref gs, .ref ga, .ref gl, .ref gh, .ref gd, .int wA, .int wB, .int (nI un)])), (gd, .inl (E.2 6, 4, .inr (.inr (.inr (.inr fd))))), (q1, .inr (2, [.ref a1, .int (nI k), .int mid, .int wr])), (a1, .inl (E.2 1, 200, .inl f))] sz) := by
  refine Met.ofW (cc := cX8_reading) (maxL := 4) (ret := (some .int)) (by decide +kernel) rfl ?_
  intro p e s m args below meth c s₁ B hml hv
  obtain ⟨rfl, hsz, hP, hE, hD0⟩ := hv
  have hx := B.exec
  have hb := B.bytes
  have hr := B.returns
  have hts := atoms_spec (ws := wsX8_reading) B.pre
  have hown : s.vm.findClass RX8 = some m.cls := findClass_of_methodNamed B.named
  have hlocks := B.notSynchronized
  have hK := hE.1
  have hNN := hE.2.1
  have hinX8 : ∀ w ∈ wsX80, w ∈ wsX8_reading := fun w h => List.mem_cons_of_mem _ (List.mem_append_left _ (List.mem_append_right _ h))
  have hinX2 : ∀ w ∈ wsX20, w ∈ wsX8_reading := fun w h => List.mem_cons_of_mem _ (List.mem_append_right _ h)
  subst hsz
  have hD := hD0.self (sz := s.heap.size)
  generalize hAe : va_A [(g0, .inr (8, [.ref gm, .ref gk, .ref gs, .ref ga, .ref gl, .ref gh, .ref gd, .int wA, .int wB, .int (nI un)])), (gd, .inl (E.2 6, 4, .inr (.inr (.inr (.inr fd))))), (q1, .inr (2, [.ref a1, .int (nI k), .int mid, .int wr])), (a1, .inl (E.2 1, 200, .inl f))] s.heap.size = A at hD ⊢
  have hA : ∀ q : Nat, s.heap.size ≤ q → A q := fun q h => by rw [← hAe]; exact Or.inr h
  have hS : va_S A s.heap s.heap [] := va_S.rf
  have hl := lv_entry ([.ref g0, .int (nI kk), .int v]) (n := 4) (Nat.le_of_ble_eq_true rfl)
  rw [lg_entry_eq]
  generalize (lg_sl ([.ref g0, .int (nI kk), .int v]) ++ List.replicate (4 - (lg_sl ([.ref g0, .int (nI kk), .int v])).length) Slot.unset).toArray = ls at hl ⊢
  have hl : lv_has ls 4 [(0, .ref g0), (1, .int (nI kk)), (2, .int v)] := hl
  refine lv_iload_n hx hb dX8_reading_0 rfl (lv_at hl 1 rfl) ?_
  refine lv_iconst (v := 0) hx hb dX8_reading_1 (by decide) ?_
  refine lv_iconst (v := 3) hx hb dX8_reading_2 (by decide) ?_
  refine rSi hE ⟨hx, hb, hml, hown, hts⟩ (c_X8_within l E (nI kk) 0 3 ) (va_cwS 3 hts gX8_reading_X8_within rfl rfl rfl (by decide +kernel) ⟨Nat.le_of_ble_eq_true rfl, Nat.le_of_ble_eq_true rfl⟩) (hP.sub [] rfl) rfl hl.1 rfl (Nat.le_of_ble_eq_true rfl) dX8_reading_3 ⟨(Nat.zero_le _), (Nat.zero_le _)⟩ ?_
  refine lv_if_eq (tgt := 19) hx hb dX8_reading_6 (by decide) (fun c_6 => by exfalso; have c_6 := fWi_0 c_6; exact c_6 ⟨nI_pos' (by omega), nI_le (b := 3) (by omega) (by omega)⟩) (fun c_6 => ?_)
  have c_6 := fWi_1 c_6
  refine lv_iload_n hx hb dX8_reading_9 rfl (lv_at hl 2 rfl) ?_
  refine lv_iconst (v := 0) hx hb dX8_reading_10 (by decide) ?_
  refine lv_ldc (v := 1000000) hx hb hown (hts (.constant RX8 212 (1000000)) (by decide +kernel)) dX8_reading_11 ?_
  refine rSi hE ⟨hx, hb, hml, hown, hts⟩ (c_X8_within l E v 0 1000000 ) (va_cwS 3 hts gX8_reading_X8_within rfl rfl rfl (by decide +kernel) ⟨Nat.le_of_ble_eq_true rfl, Nat.le_of_ble_eq_true rfl⟩) (hP.sub [] rfl) rfl hl.1 rfl (Nat.le_of_ble_eq_true rfl) dX8_reading_13 ⟨(Nat.zero_le _), (Nat.zero_le _)⟩ ?_
  refine lv_if_ne (tgt := 21) hx hb dX8_reading_16 (by decide) (fun c_16 => ?_) (fun c_16 => by exfalso; have c_16 := fWi_0 c_16; exact c_16 hv)
  have c_16 := fWi_1 c_16
  refine lv_aload_n hx hb dX8_reading_21 rfl (lv_at hl 0 rfl) ?_
  refine va_get (D := E.1) (ci := 8) (v := .ref gd) (C := RX8) (T := TX8) (N := 10) hx hb hts hinX8 hown hK hP 0 rfl rfl 6 (by decide) (hts (.fieldLink RX8 52 "WornRings" "loads" "[LWornRings$Load;") (by decide +kernel)) (fun _ h9 => h9) rfl dX8_reading_22 ?_
  refine lv_iload_n hx hb dX8_reading_25 rfl (lv_at hl 1 rfl) ?_
  refine va_aldq hx hb hK hP 1 6 rfl rfl (vp_in_nI (by omega) (by omega)) dX8_reading_26 ?_
  rw [nI_clamp (n := kk) (by omega)]
  rw [hq]
  refine W.eq (g2 := F0 m 27 ls [.ref q1]) rfl ?_
  refine lv_astore_n (lv' := [(3, .ref q1), (0, .ref g0), (1, .int (nI kk)), (2, .int v)]) hx hb dX8_reading_27 rfl hl (by decide) rfl (fun ls hl => ?_)
  refine lv_aload_n hx hb dX8_reading_28 rfl (lv_at hl 0 rfl) ?_
  refine va_getN (D := E.1) (host := "WornRings") (ref := "WornRings$Load") (ci := 2) (v := .int (nI k)) (C := RX2) (T := TX2) (N := 4) hx hb hts hinX2 hown hK hP 2 rfl rfl 1 (by decide) (va_Nw.use rfl (hNN (.fieldLinkNest RX8 213 "WornRings$Load" "count" "I" "WornRings") (by decide +kernel))) (fun _ h9 => h9) rfl dX8_reading_29 ?_
  refine lv_sipush (v := 200) hx hb dX8_reading_32 (by decide) ?_
  refine lv_icmp_lt (tgt := 41) hx hb dX8_reading_35 (by decide) (fun c_35 => ?_) (fun c_35 => by exfalso; have c_35 : ¬ k < 200 := fun h9 => c_35 ((nI_ltI (a := k) (b := 200) (by omega) (by omega)).mpr h9); omega)
  have c_35 : k < 200 := (nI_ltI (a := k) (b := 200) (by omega) (by omega)).mp c_35
  refine lv_aload_n hx hb dX8_reading_41 rfl (lv_at hl 0 rfl) ?_
  refine lv_iload_n hx hb dX8_reading_42 rfl (lv_at hl 3 rfl) ?_
  refine wVv (wr := [(g0, .inr (8, [.ref gm, .ref gk, .ref gs, .ref ga, .ref gl, .ref gh, .ref gd, .int wA, .int wB, .int (nI un)])), (gd, .inl (E.2 6, 4, .inr (.inr (.inr (.inr fd)))))]) hE ⟨hx, hb, hml, hown, hts⟩ (c_X2_add l E s.heap.size q1 a1 k mid wr f v (hk)) (cwV 1 hts gX8_reading_X2_add rfl rfl rfl (by decide +kernel) ⟨Nat.le_of_ble_eq_true rfl, Nat.le_of_ble_eq_true rfl⟩) hP hD hS hA [2, 3] [0, 1] rfl rfl (by decide) (by decide) (by decide) 0 2 rfl rfl rfl hl.1 rfl (Nat.le_of_ble_eq_true rfl) dX8_reading_43 ⟨(Nat.zero_le _), (Nat.zero_le _)⟩ (fun u H locs hw hP hD hS => ?_)
  have hP : va_P E.1 vwCl [(g0, .inr (8, [.ref gm, .ref gk, .ref gs, .ref ga, .ref gl, .ref gh, .ref gd, .int wA, .int wB, .int (nI un)])), (gd, .inl (E.2 6, 4, .inr (.inr (.inr (.inr fd))))), (q1, .inr (2, [.ref a1, .int (nI (k + 1)), .int (if k + 1 = 5 then fMid (upd f k v) else mid), .int wr])), (a1, .inl (E.2 1, 200, .inl (upd f k v)))] H := hP
  have hD : va_D A [(g0, .inr (8, [.ref gm, .ref gk, .ref gs, .ref ga, .ref gl, .ref gh, .ref gd, .int wA, .int wB, .int (nI un)])), (gd, .inl (E.2 6, 4, .inr (.inr (.inr (.inr fd))))), (q1, .inr (2, [.ref a1, .int (nI (k + 1)), .int (if k + 1 = 5 then fMid (upd f k v) else mid), .int wr])), (a1, .inl (E.2 1, 200, .inl (upd f k v)))] := hD
  refine lv_aload_n hx hb dX8_reading_46 rfl (lv_at hl 0 rfl) ?_
  refine lv_aload_n hx hb dX8_reading_47 rfl (lv_at hl 1 rfl) ?_
  refine va_get (D := E.1) (ci := 8) (v := .int wA) (C := RX8) (T := TX8) (N := 10) hx hb hts hinX8 hown hK hP 0 rfl rfl 7 (by decide) (hts (.fieldLink RX8 56 "WornRings" "warnAbove" "I") (by decide +kernel)) (fun _ h9 => h9) rfl dX8_reading_48 ?_
  refine lv_aload_n hx hb dX8_reading_51 rfl (lv_at hl 1 rfl) ?_
  refine va_get (D := E.1) (ci := 8) (v := .int wB) (C := RX8) (T := TX8) (N := 10) hx hb hts hinX8 hown hK hP 0 rfl rfl 8 (by decide) (hts (.fieldLink RX8 60 "WornRings" "calmBelow" "I") (by decide +kernel)) (fun _ h9 => h9) rfl dX8_reading_52 ?_
  refine lv_aload_n hx hb dX8_reading_55 rfl (lv_at hl 1 rfl) ?_
  refine va_get (D := E.1) (ci := 8) (v := .int (nI un)) (C := RX8) (T := TX8) (N := 10) hx hb hts hinX8 hown hK hP 0 rfl rfl 9 (by decide) (hts (.fieldLink RX8 63 "WornRings" "latest" "I") (by decide +kernel)) (fun _ h9 => h9) rfl dX8_reading_56 ?_
  refine wVv (wr := [(g0, .inr (8, [.ref gm, .ref gk, .ref gs, .ref ga, .ref gl, .ref gh, .ref gd, .int wA, .int wB, .int (nI un)])), (gd, .inl (E.2 6, 4, .inr (.inr (.inr (.inr fd)))))]) hE ⟨hx, hb, hml, hown, hts⟩ (c_X2_judge l E H.size q1 a1 (k + 1) (if k + 1 = 5 then fMid (upd f k v) else mid) wr (upd f k v) wA wB un (by omega) (hu1) (hu2)) (cwV 3 hts gX8_reading_X2_judge rfl rfl rfl (by decide +kernel) ⟨Nat.le_of_ble_eq_true rfl, Nat.le_of_ble_eq_true rfl⟩) hP hD hS hA [2, 3] [0, 1] rfl rfl (by decide) (by decide) (by decide) 0 2 rfl rfl rfl hl.1 rfl (Nat.le_of_ble_eq_true rfl) dX8_reading_59 ⟨(Nat.zero_le _), (Nat.zero_le _)⟩ (fun u H locs hw hP hD hS => ?_)
  have hP : va_P E.1 vwCl [(g0, .inr (8, [.ref gm, .ref gk, .ref gs, .ref ga, .ref gl, .ref gh, .ref gd, .int wA, .int wB, .int (nI un)])), (gd, .inl (E.2 6, 4, .inr (.inr (.inr (.inr fd))))), (q1, .inr (2, [.ref a1, .int (nI (k + 1)), .int (if k + 1 = 5 then fMid (upd f k v) else mid), .int (fJud (upd f k v) (k + 1) un wA wB (if k + 1 = 5 then fMid (upd f k v) else mid) wr)])), (a1, .inl (E.2 1, 200, .inl (upd f k v)))] H := hP
  have hD : va_D A [(g0, .inr (8, [.ref gm, .ref gk, .ref gs, .ref ga, .ref gl, .ref gh, .ref gd, .int wA, .int wB, .int (nI un)])), (gd, .inl (E.2 6, 4, .inr (.inr (.inr (.inr fd))))), (q1, .inr (2, [.ref a1, .int (nI (k + 1)), .int (if k + 1 = 5 then fMid (upd f k v) else mid), .int (fJud (upd f k v) (k + 1) un wA wB (if k + 1 = 5 then fMid (upd f k v) else mid) wr)])), (a1, .inl (E.2 1, 200, .inl (upd f k v)))] := hD
  refine lv_aload_n hx hb dX8_reading_62 rfl (lv_at hl 0 rfl) ?_
  refine va_getN (D := E.1) (host := "WornRings") (ref := "WornRings$Load") (ci := 2) (v := .int (nI (k + 1))) (C := RX2) (T := TX2) (N := 4) hx hb hts hinX2 hown hK hP 2 rfl rfl 1 (by decide) (va_Nw.use rfl (hNN (.fieldLinkNest RX8 213 "WornRings$Load" "count" "I" "WornRings") (by decide +kernel))) (fun _ h9 => h9) rfl dX8_reading_63 ?_
  have hP9 : va_P E.1 vwCl [(g0, .inr (8, [.ref gm, .ref gk, .ref gs, .ref ga, .ref gl, .ref gh, .ref gd, .int wA, .int wB, .int (nI un)])), (gd, .inl (E.2 6, 4, .inr (.inr (.inr (.inr fd))))), (q1, .inr (2, [.ref a1, .int (nI (k + 1)), .int (if k + 1 = 5 then fMid (upd f k v) else mid), .int (fJud (upd f k v) (k + 1) un wA wB (if k + 1 = 5 then fMid (upd f k v) else mid) wr)])), (a1, .inl (E.2 1, 200, .inl (upd f k v)))] H := hP.sub [0, 1, 2, 3] rfl
  have hD9 : va_D A [(g0, .inr (8, [.ref gm, .ref gk, .ref gs, .ref ga, .ref gl, .ref gh, .ref gd, .int wA, .int wB, .int (nI un)])), (gd, .inl (E.2 6, 4, .inr (.inr (.inr (.inr fd))))), (q1, .inr (2, [.ref a1, .int (nI (k + 1)), .int (if k + 1 = 5 then fMid (upd f k v) else mid), .int (fJud (upd f k v) (k + 1) un wA wB (if k + 1 = 5 then fMid (upd f k v) else mid) wr)])), (a1, .inl (E.2 1, 200, .inl (upd f k v)))] := hD.sub [0, 1, 2, 3] (by decide) rfl
  exact W.iret (v := nI (k + 1)) hx hb hr (fun t9 ht9 hW9 => ⟨⟨nI (k + 1), (), rfl, rfl, ⟨by rw [ht9]; exact hP9, hD9⟩⟩, hS.F ht9⟩) hS.2.2 dX8_reading_66
set_option maxHeartbeats 1000000 in
set_option maxRecDepth 100000 in
theorem c_X8_baseline_no (l : Launch) (E : EnvT) (g0 : Nat) (gm : Nat) (gk : Nat) (gs : Nat) (ga : Nat) (gl : Nat) (gh : Nat) (gd : Nat) (wA : Int32) (wB : Int32) (wU : Int32) (sv : Int32) (hno : ¬ (0 ≤ sv ∧ sv ≤ 3)) : Met l yX8_baseline wsX8_baseline ({ frames := 1, cells := 0, slots := 0, locals := 22 }) (va_Pc [.ref g0, .int sv] (PR E [(g0, .inr (8, [.ref gm, .ref gk, .ref gs, .ref ga, .ref gl, .ref gh, .ref gd, .int wA, .int wB, .int wU]))])) (vp_Si (fun r => r = -1)) 0 0 (fun _ => False) := by
  refine Met.ofW (cc := cX8_baseline) (maxL := 2) (ret := (some .int)) (by decide +kernel) rfl ?_
  intro p e s m args below meth c s₁ B hml hv
  obtain ⟨rfl, hP, hE⟩ := hv
  have hx := B.exec
  have hb := B.bytes
  have hr := B.returns
  have hts := atoms_spec (ws := wsX8_baseline) B.pre
  have hown : s.vm.findClass RX8 = some m.cls := findClass_of_methodNamed B.named
  have hlocks := B.notSynchronized
  have hK := hE.1
  have hNN := hE.2.1
  have hl := lv_entry ([.ref g0, .int sv]) (n := 2) (Nat.le_of_ble_eq_true rfl)
  rw [lg_entry_eq]
  generalize (lg_sl ([.ref g0, .int sv]) ++ List.replicate (2 - (lg_sl ([.ref g0, .int sv])).length) Slot.unset).toArray = ls at hl ⊢
  have hl : lv_has ls 2 [(0, .ref g0), (1, .int sv)] := hl
  refine lv_iload_n hx hb dX8_baseline_0 rfl (lv_at hl 1 rfl) ?_
  refine lv_iconst (v := 0) hx hb dX8_baseline_1 (by decide) ?_
  refine lv_iconst (v := 3) hx hb dX8_baseline_2 (by decide) ?_
  refine rSi hE ⟨hx, hb, hml, hown, hts⟩ (c_X8_within l E sv 0 3 ) (va_cwS 3 hts gX8_baseline_X8_within rfl rfl rfl (by decide +kernel) ⟨Nat.le_of_ble_eq_true rfl, Nat.le_of_ble_eq_true rfl⟩) (hP.sub [] rfl) rfl hl.1 rfl (Nat.le_of_ble_eq_true rfl) dX8_baseline_3 ⟨(Nat.zero_le _), (Nat.zero_le _)⟩ ?_
  refine lv_if_ne (tgt := 11) hx hb dX8_baseline_6 (by decide) (fun c_6 => by exfalso; have c_6 := fWi_1 c_6; exact hno c_6) (fun c_6 => ?_)
  have c_6 := fWi_0 c_6
  refine lv_iconst (v := (-1)) hx hb dX8_baseline_9 (by decide) ?_
  exact W.iret (v := (-1)) hx hb hr (fun t9 ht9 hW9 => ⟨(-1), rfl, rfl, ht9⟩) (fun _ h => absurd h List.not_mem_nil) dX8_baseline_10
set_option maxHeartbeats 1000000 in
set_option maxRecDepth 100000 in
theorem c_X8_warned_no (l : Launch) (E : EnvT) (g0 : Nat) (gm : Nat) (gk : Nat) (gs : Nat) (ga : Nat) (gl : Nat) (gh : Nat) (gd : Nat) (wA : Int32) (wB : Int32) (wU : Int32) (sv : Int32) (hno : ¬ (0 ≤ sv ∧ sv ≤ 3)) : Met l yX8_warned wsX8_warned ({ frames := 1, cells := 0, slots := 0, locals := 22 }) (va_Pc [.ref g0, .int sv] (PR E [(g0, .inr (8, [.ref gm, .ref gk, .ref gs, .ref ga, .ref gl, .ref gh, .ref gd, .int wA, .int wB, .int wU]))])) (vp_Si (fun r => r = -1)) 0 0 (fun _ => False) := by
  refine Met.ofW (cc := cX8_warned) (maxL := 2) (ret := (some .int)) (by decide +kernel) rfl ?_
  intro p e s m args below meth c s₁ B hml hv
  obtain ⟨rfl, hP, hE⟩ := hv
  have hx := B.exec
  have hb := B.bytes
  have hr := B.returns
  have hts := atoms_spec (ws := wsX8_warned) B.pre
  have hown : s.vm.findClass RX8 = some m.cls := findClass_of_methodNamed B.named
  have hlocks := B.notSynchronized
  have hK := hE.1
  have hNN := hE.2.1
  have hl := lv_entry ([.ref g0, .int sv]) (n := 2) (Nat.le_of_ble_eq_true rfl)
  rw [lg_entry_eq]
  generalize (lg_sl ([.ref g0, .int sv]) ++ List.replicate (2 - (lg_sl ([.ref g0, .int sv])).length) Slot.unset).toArray = ls at hl ⊢
  have hl : lv_has ls 2 [(0, .ref g0), (1, .int sv)] := hl
  refine lv_iload_n hx hb dX8_warned_0 rfl (lv_at hl 1 rfl) ?_
  refine lv_iconst (v := 0) hx hb dX8_warned_1 (by decide) ?_
  refine lv_iconst (v := 3) hx hb dX8_warned_2 (by decide) ?_
  refine rSi hE ⟨hx, hb, hml, hown, hts⟩ (c_X8_within l E sv 0 3 ) (va_cwS 3 hts gX8_warned_X8_within rfl rfl rfl (by decide +kernel) ⟨Nat.le_of_ble_eq_true rfl, Nat.le_of_ble_eq_true rfl⟩) (hP.sub [] rfl) rfl hl.1 rfl (Nat.le_of_ble_eq_true rfl) dX8_warned_3 ⟨(Nat.zero_le _), (Nat.zero_le _)⟩ ?_
  refine lv_if_ne (tgt := 11) hx hb dX8_warned_6 (by decide) (fun c_6 => by exfalso; have c_6 := fWi_1 c_6; exact hno c_6) (fun c_6 => ?_)
  have c_6 := fWi_0 c_6
  refine lv_iconst (v := (-1)) hx hb dX8_warned_9 (by decide) ?_
  exact W.iret (v := (-1)) hx hb hr (fun t9 ht9 hW9 => ⟨(-1), rfl, rfl, ht9⟩) (fun _ h => absurd h List.not_mem_nil) dX8_warned_10
set_option maxHeartbeats 1000000 in
set_option maxRecDepth 100000 in
theorem c_X8_baseline_yes (l : Launch) (E : EnvT) (g0 : Nat) (gm : Nat) (gk : Nat) (gs : Nat) (ga : Nat) (gl : Nat) (gh : Nat) (gd : Nat) (wA : Int32) (wB : Int32) (wU : Int32) (fd : Nat → Option Nat) (q1 : Nat) (a1 : Nat) (k : Nat) (mid : Int32) (wr : Int32) (f : Nat → Int32) (kk : Nat) (hk4 : kk < 4) (hq : fd kk = some q1) (hk2 : k ≤ 200) : Met l yX8_baseline wsX8_baseline ({ frames := 1, cells := 0, slots := 0, locals := 22 }) (va_Pc [.ref g0, .int (nI kk)] (PR E [(g0, .inr (8, [.ref gm, .ref gk, .ref gs, .ref ga, .ref gl, .ref gh, .ref gd, .int wA, .int wB, .int wU])), (gd, .inl (E.2 6, 4, .inr (.inr (.inr (.inr fd))))), (q1, .inr (2, [.ref a1, .int (nI k), .int mid, .int wr])), (a1, .inl (E.2 1, 200, .inl f))])) (vp_Si (fun r => r = if k < 5 then -4 else mid)) 0 0 (fun _ => False) := by
  refine Met.ofW (cc := cX8_baseline) (maxL := 2) (ret := (some .int)) (by decide +kernel) rfl ?_
  intro p e s m args below meth c s₁ B hml hv
  obtain ⟨rfl, hP, hE⟩ := hv
  have hx := B.exec
  have hb := B.bytes
  have hr := B.returns
  have hts := atoms_spec (ws := wsX8_baseline) B.pre
  have hown : s.vm.findClass RX8 = some m.cls := findClass_of_methodNamed B.named
  have hlocks := B.notSynchronized
  have hK := hE.1
  have hNN := hE.2.1
  have hinX8 : ∀ w ∈ wsX80, w ∈ wsX8_baseline := fun w h => List.mem_cons_of_mem _ (List.mem_append_left _ (List.mem_append_right _ h))
  have hinX2 : ∀ w ∈ wsX20, w ∈ wsX8_baseline := fun w h => List.mem_cons_of_mem _ (List.mem_append_right _ h)
  have hl := lv_entry ([.ref g0, .int (nI kk)]) (n := 2) (Nat.le_of_ble_eq_true rfl)
  rw [lg_entry_eq]
  generalize (lg_sl ([.ref g0, .int (nI kk)]) ++ List.replicate (2 - (lg_sl ([.ref g0, .int (nI kk)])).length) Slot.unset).toArray = ls at hl ⊢
  have hl : lv_has ls 2 [(0, .ref g0), (1, .int (nI kk))] := hl
  refine lv_iload_n hx hb dX8_baseline_0 rfl (lv_at hl 1 rfl) ?_
  refine lv_iconst (v := 0) hx hb dX8_baseline_1 (by decide) ?_
  refine lv_iconst (v := 3) hx hb dX8_baseline_2 (by decide) ?_
  refine rSi hE ⟨hx, hb, hml, hown, hts⟩ (c_X8_within l E (nI kk) 0 3 ) (va_cwS 3 hts gX8_baseline_X8_within rfl rfl rfl (by decide +kernel) ⟨Nat.le_of_ble_eq_true rfl, Nat.le_of_ble_eq_true rfl⟩) (hP.sub [] rfl) rfl hl.1 rfl (Nat.le_of_ble_eq_true rfl) dX8_baseline_3 ⟨(Nat.zero_le _), (Nat.zero_le _)⟩ ?_
  refine lv_if_ne (tgt := 11) hx hb dX8_baseline_6 (by decide) (fun c_6 => ?_) (fun c_6 => by exfalso; have c_6 := fWi_0 c_6; exact c_6 ⟨nI_pos' (by omega), nI_le (b := 3) (by omega) (by omega)⟩)
  have c_6 := fWi_1 c_6
  refine lv_aload_n hx hb dX8_baseline_11 rfl (lv_at hl 0 rfl) ?_
  refine va_get (D := E.1) (ci := 8) (v := .ref gd) (C := RX8) (T := TX8) (N := 10) hx hb hts hinX8 hown hK hP 0 rfl rfl 6 (by decide) (hts (.fieldLink RX8 52 "WornRings" "loads" "[LWornRings$Load;") (by decide +kernel)) (fun _ h9 => h9) rfl dX8_baseline_12 ?_
  refine lv_iload_n hx hb dX8_baseline_15 rfl (lv_at hl 1 rfl) ?_
  refine va_aldq hx hb hK hP 1 6 rfl rfl (vp_in_nI (by omega) (by omega)) dX8_baseline_16 ?_
  rw [nI_clamp (n := kk) (by omega)]
  rw [hq]
  refine W.eq (g2 := F0 m 17 ls [.ref q1]) rfl ?_
  refine va_getN (D := E.1) (host := "WornRings") (ref := "WornRings$Load") (ci := 2) (v := .int (nI k)) (C := RX2) (T := TX2) (N := 4) hx hb hts hinX2 hown hK hP 2 rfl rfl 1 (by decide) (va_Nw.use rfl (hNN (.fieldLinkNest RX8 213 "WornRings$Load" "count" "I" "WornRings") (by decide +kernel))) (fun _ h9 => h9) rfl dX8_baseline_17 ?_
  refine lv_iconst (v := 5) hx hb dX8_baseline_20 (by decide) ?_
  refine lv_icmp_ge (tgt := 29) hx hb dX8_baseline_21 (by decide) (fun c_21 => ?_) (fun c_21 => ?_)
  · have c_21 : 5 ≤ k := (nI_leI (a := 5) (b := k) (by omega) (by omega)).mp c_21
    refine lv_aload_n hx hb dX8_baseline_29 rfl (lv_at hl 0 rfl) ?_
    refine va_get (D := E.1) (ci := 8) (v := .ref gd) (C := RX8) (T := TX8) (N := 10) hx hb hts hinX8 hown hK hP 0 rfl rfl 6 (by decide) (hts (.fieldLink RX8 52 "WornRings" "loads" "[LWornRings$Load;") (by decide +kernel)) (fun _ h9 => h9) rfl dX8_baseline_30 ?_
    refine lv_iload_n hx hb dX8_baseline_33 rfl (lv_at hl 1 rfl) ?_
    refine va_aldq hx hb hK hP 1 6 rfl rfl (vp_in_nI (by omega) (by omega)) dX8_baseline_34 ?_
    rw [nI_clamp (n := kk) (by omega)]
    rw [hq]
    refine W.eq (g2 := F0 m 35 ls [.ref q1]) rfl ?_
    refine va_getN (D := E.1) (host := "WornRings") (ref := "WornRings$Load") (ci := 2) (v := .int mid) (C := RX2) (T := TX2) (N := 4) hx hb hts hinX2 hown hK hP 2 rfl rfl 2 (by decide) (va_Nw.use rfl (hNN (.fieldLinkNest RX8 220 "WornRings$Load" "middle" "I" "WornRings") (by decide +kernel))) (fun _ h9 => h9) rfl dX8_baseline_35 ?_
    exact W.iret (v := mid) hx hb hr (fun t9 ht9 hW9 => ⟨mid, rfl, by first | (rw [if_pos (by omega)]; done) | (rw [if_neg (by omega)]; done), ht9⟩) (fun _ h => absurd h List.not_mem_nil) dX8_baseline_38
  · have c_21 : ¬ 5 ≤ k := fun h9 => c_21 ((nI_leI (a := 5) (b := k) (by omega) (by omega)).mpr h9)
    refine lv_bipush (v := (-4)) hx hb dX8_baseline_24 (by decide) ?_
    refine lv_goto (tgt := 38) hx hb dX8_baseline_26 (by decide) ?_
    exact W.iret (v := (-4)) hx hb hr (fun t9 ht9 hW9 => ⟨(-4), rfl, by first | (rw [if_pos (by omega)]; done) | (rw [if_neg (by omega)]; done), ht9⟩) (fun _ h => absurd h List.not_mem_nil) dX8_baseline_38
set_option maxHeartbeats 1000000 in
set_option maxRecDepth 100000 in
theorem c_X8_warned_yes (l : Launch) (E : EnvT) (g0 : Nat) (gm : Nat) (gk : Nat) (gs : Nat) (ga : Nat) (gl : Nat) (gh : Nat) (gd : Nat) (wA : Int32) (wB : Int32) (wU : Int32) (fd : Nat → Option Nat) (q1 : Nat) (a1 : Nat) (k : Nat) (mid : Int32) (wr : Int32) (f : Nat → Int32) (kk : Nat) (hk4 : kk < 4) (hq : fd kk = some q1) : Met l yX8_warned wsX8_warned ({ frames := 1, cells := 0, slots := 0, locals := 22 }) (va_Pc [.ref g0, .int (nI kk)] (PR E [(g0, .inr (8, [.ref gm, .ref gk, .ref gs, .ref ga, .ref gl, .ref gh, .ref gd, .int wA, .int wB, .int wU])), (gd, .inl (E.2 6, 4, .inr (.inr (.inr (.inr fd))))), (q1, .inr (2, [.ref a1, .int (nI k), .int mid, .int wr])), (a1, .inl (E.2 1, 200, .inl f))])) (vp_Si (fun r => r = if wr = 0 then 0 else 1)) 0 0 (fun _ => False) := by
  refine Met.ofW (cc := cX8_warned) (maxL := 2) (ret := (some .int)) (by decide +kernel) rfl ?_
  intro p e s m args below meth c s₁ B hml hv
  obtain ⟨rfl, hP, hE⟩ := hv
  have hx := B.exec
  have hb := B.bytes
  have hr := B.returns
  have hts := atoms_spec (ws := wsX8_warned) B.pre
  have hown : s.vm.findClass RX8 = some m.cls := findClass_of_methodNamed B.named
  have hlocks := B.notSynchronized
  have hK := hE.1
  have hNN := hE.2.1
  have hinX8 : ∀ w ∈ wsX80, w ∈ wsX8_warned := fun w h => List.mem_cons_of_mem _ (List.mem_append_left _ (List.mem_append_right _ h))
  have hinX2 : ∀ w ∈ wsX20, w ∈ wsX8_warned := fun w h => List.mem_cons_of_mem _ (List.mem_append_right _ h)
  have hl := lv_entry ([.ref g0, .int (nI kk)]) (n := 2) (Nat.le_of_ble_eq_true rfl)
  rw [lg_entry_eq]
  generalize (lg_sl ([.ref g0, .int (nI kk)]) ++ List.replicate (2 - (lg_sl ([.ref g0, .int (nI kk)])).length) Slot.unset).toArray = ls at hl ⊢
  have hl : lv_has ls 2 [(0, .ref g0), (1, .int (nI kk))] := hl
  refine lv_iload_n hx hb dX8_warned_0 rfl (lv_at hl 1 rfl) ?_
  refine lv_iconst (v := 0) hx hb dX8_warned_1 (by decide) ?_
  refine lv_iconst (v := 3) hx hb dX8_warned_2 (by decide) ?_
  refine rSi hE ⟨hx, hb, hml, hown, hts⟩ (c_X8_within l E (nI kk) 0 3 ) (va_cwS 3 hts gX8_warned_X8_within rfl rfl rfl (by decide +kernel) ⟨Nat.le_of_ble_eq_true rfl, Nat.le_of_ble_eq_true rfl⟩) (hP.sub [] rfl) rfl hl.1 rfl (Nat.le_of_ble_eq_true rfl) dX8_warned_3 ⟨(Nat.zero_le _), (Nat.zero_le _)⟩ ?_
  refine lv_if_ne (tgt := 11) hx hb dX8_warned_6 (by decide) (fun c_6 => ?_) (fun c_6 => by exfalso; have c_6 := fWi_0 c_6; exact c_6 ⟨nI_pos' (by omega), nI_le (b := 3) (by omega) (by omega)⟩)
  have c_6 := fWi_1 c_6
  refine lv_aload_n hx hb dX8_warned_11 rfl (lv_at hl 0 rfl) ?_
  refine va_get (D := E.1) (ci := 8) (v := .ref gd) (C := RX8) (T := TX8) (N := 10) hx hb hts hinX8 hown hK hP 0 rfl rfl 6 (by decide) (hts (.fieldLink RX8 52 "WornRings" "loads" "[LWornRings$Load;") (by decide +kernel)) (fun _ h9 => h9) rfl dX8_warned_12 ?_
  refine lv_iload_n hx hb dX8_warned_15 rfl (lv_at hl 1 rfl) ?_
  refine va_aldq hx hb hK hP 1 6 rfl rfl (vp_in_nI (by omega) (by omega)) dX8_warned_16 ?_
  rw [nI_clamp (n := kk) (by omega)]
  rw [hq]
  refine W.eq (g2 := F0 m 17 ls [.ref q1]) rfl ?_
  refine va_getN (D := E.1) (host := "WornRings") (ref := "WornRings$Load") (ci := 2) (v := .int wr) (C := RX2) (T := TX2) (N := 4) hx hb hts hinX2 hown hK hP 2 rfl rfl 3 (by decide) (va_Nw.use rfl (hNN (.fieldLinkNest RX8 223 "WornRings$Load" "warning" "Z" "WornRings") (by decide +kernel))) (fun _ h9 => h9) rfl dX8_warned_17 ?_
  refine lv_if_eq (tgt := 27) hx hb dX8_warned_20 (by decide) (fun c_20 => ?_) (fun c_20 => ?_)
  · refine lv_iconst (v := 0) hx hb dX8_warned_27 (by decide) ?_
    exact W.iret (v := 0) hx hb hr (fun t9 ht9 hW9 => ⟨0, rfl, by first | exact (if_pos c_20).symm | exact (if_neg c_20).symm, ht9⟩) (fun _ h => absurd h List.not_mem_nil) dX8_warned_28
  · refine lv_iconst (v := 1) hx hb dX8_warned_23 (by decide) ?_
    refine lv_goto (tgt := 28) hx hb dX8_warned_24 (by decide) ?_
    exact W.iret (v := 1) hx hb hr (fun t9 ht9 hW9 => ⟨1, rfl, by first | exact (if_pos c_20).symm | exact (if_neg c_20).symm, ht9⟩) (fun _ h => absurd h List.not_mem_nil) dX8_warned_28
