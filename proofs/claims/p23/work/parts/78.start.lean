/-! the start of the law -/
def zI (A S : List Nat) (r qa qb : Nat) : ZT := ((fun j => ([2, 1, 0, 0, 0, 0, 10] ++ A).getD j 0), (fun j => [fun q => S.getD q 0, fun q => S.getD (4 + q) 0, fun q => S.getD (8 + q) 0, fun q => S.getD (12 + q) 0, updN (fun _ => 0) 0 1, updN (fun _ => 0) 0 1, fun _ => 0, fun _ => 0, fun _ => 0, fun _ => 0, fun _ => 1, fun _ => 0, fun _ => 0, fun _ => 0, fun _ => 0, fun _ => 0, fun _ => 0, fun _ => 0, fun _ => 0, fun _ => 0, fun _ => 0, fun _ => 0, fun _ => 0, fun _ => 0].getD j (fun _ => 0)), (fun j => [va_up (fun _ => none) 0 (some r), fun _ => none, fun _ => none, va_up (va_up (va_up (va_up (fun _ => none) 0 (some (S.getD 0 0))) 1 (some (S.getD 1 0))) 2 (some (S.getD 2 0))) 3 (some (S.getD 3 0)), va_up (va_up (va_up (va_up (fun _ => none) 0 (some (S.getD 8 0))) 1 (some (S.getD 9 0))) 2 (some (S.getD 10 0))) 3 (some (S.getD 11 0))].getD j (fun _ => none)), (fun j => [150, 120, 0, 0, 0, 0, 0, 0, 0].getD j 0), (fun j => [fun _ => 0, fun _ => 0, upd (upd (upd (upd (fun _ => 0) 0 (-1)) 1 (-1)) 2 (-1)) 3 (-1), fun _ => 0, fun _ => 0, fun _ => 0, fun _ => 0, fun _ => 0, fun _ => 0, fun _ => 0, fun _ => 0, fun _ => 0, upd (upd (upd (fun _ => 0) 0 150) 1 120) 2 2].getD j (fun _ => 0)), (fun _ _ _ => 0), (fun _ _ => 0), (fun _ => 0), (fun _ => []), (fun _ => [PO r qa qb 0 (updN (fun _ => 0) 0 1) (updN (fun _ => 0) 0 1)]))
theorem lt1 {i : Nat} (h : i < 1) : i = 0 := by omega
theorem Mod_init : ModM 1 0 (updN (fun _ => 0) 0 1) (updN (fun _ => 0) 0 1) (fun _ => 0) (fun _ => 0) (fun _ => 0) (fun _ => 0) (fun _ => 0) :=
  ⟨⟨by omega, by omega, by omega⟩, fun i hi => by rw [lt1 hi, updN_s]; decide, fun i hi => by rw [lt1 hi, updN_s]; decide, fun i h1 h2 => by omega, fun r hr => by omega⟩
theorem Ps_init (r qa qb : Nat) : PsOk (va_up (fun _ => none) 0 (some r)) (fun _ => none) (fun _ => none) 1 0 (updN (fun _ => 0) 0 1) (updN (fun _ => 0) 0 1) (fun _ => 0) (fun _ => 0) (fun _ => 0) (fun _ => 0) (fun _ => 0) [PO r qa qb 0 (updN (fun _ => 0) 0 1) (updN (fun _ => 0) 0 1)] :=
  ⟨fun i hi => ⟨_, List.mem_cons_self, by rw [lt1 hi, va_up_self]; rfl, by rw [lt1 hi]; exact PO_ok r qa qb 0 _ _⟩, fun i hi => by omega, fun q hq => by omega⟩
theorem lt4 {q : Nat} (h : q < 4) : q = 0 ∨ q = 1 ∨ q = 2 ∨ q = 3 := by omega
theorem four {P : Nat → Prop} (h0 : P 0) (h1 : P 1) (h2 : P 2) (h3 : P 3) : ∀ q, q < 4 → P q := fun q hq => by
  rcases lt4 hq with e | e | e | e <;> rw [e] <;> assumption
theorem Rel_init (A S : List Nat) (r qa qb : Nat) : Rel (zI A S r qa qb) :=
  Rel.of (z := zI A S r qa qb) Mod_init (Ps_init r qa qb) rfl (Nat.zero_le 60) (fun j (hj : j + 1 < 0) => absurd hj (Nat.not_lt_zero _)) (fun j (hj : j < 0) => absurd hj (Nat.not_lt_zero _)) (fun j (hj : j < 0) => absurd hj (Nat.not_lt_zero _)) (Nat.zero_le 1000000) (fun (h : 0 < 0) => absurd h (Nat.lt_irrefl 0))
    (four rfl rfl rfl rfl) (four rfl rfl rfl rfl) (fun _ _ => Nat.zero_le 200) (fun _ _ => ⟨Nat.le_refl 1, (show (1 : Nat) ≤ 1000 by omega)⟩)
    (four (Or.inl ⟨rfl, (show (-1 : Int32) < 0 by decide)⟩) (Or.inl ⟨rfl, (show (-1 : Int32) < 0 by decide)⟩) (Or.inl ⟨rfl, (show (-1 : Int32) < 0 by decide)⟩) (Or.inl ⟨rfl, (show (-1 : Int32) < 0 by decide)⟩))
    (fun _ _ _ _ => rfl) (fun _ => (show -30000 ≤ (0 : Int32).toInt ∧ (0 : Int32).toInt ≤ 30000 by decide)) (Nat.zero_le 12) (show (10 : Nat) ≤ 100 by omega) (Or.inl rfl) (fun _ => Nat.zero_le 12) (fun _ => (show (0 : Nat) < 4096 by omega)) (fun _ _ => Nat.zero_le 200) (fun _ _ (h : 5 ≤ 0) => absurd h (by omega)) (fun _ _ => ⟨rfl, Or.inl rfl⟩) (fun _ _ _ _ => rfl) ⟨rfl, rfl, rfl, (show (1 : Nat) ≤ 2 by omega), (show (2 : Nat) ≤ 4 by omega)⟩
set_option maxRecDepth 100000 in
theorem nestW_in : ∀ w ∈ nestW, w ∈ lw_tbl := fun w hw => of_decide_eq_true (List.all_eq_true.mp (show (nestW.all fun w => decide (w ∈ lw_tbl)) = true by decide +kernel) w hw)
theorem arr_p {args : Array Value} {s : State} {ty : FieldType} (h : (Cond.arrayClass ty).before args s = true) : ∃ cA : ClassId, ArrOfT s cA ty ∧ s.vm.findClass ("[" ++ ty.toString) = some cA := by
  obtain ⟨cA, kA, comp, h1, h2, h3⟩ := Cond.arrayClass_spec h
  exact ⟨cA, fun n z => ⟨fun k h => (by cases h), kA, h2, comp, h3⟩, h1⟩
theorem arr_o {args : Array Value} {s : State} {C : String} (h : (Cond.arrayOver (.object C)).before args s = true) : ∃ cA : ClassId, ArrOfT s cA (.object C) ∧ va_RA s cA (.object C) := by
  obtain ⟨comp, cA, kA, g1, -, g2, g3, g4⟩ := Cond.arrayOver_spec h
  exact ⟨cA, fun n z => ⟨fun k h => (by cases h), kA, g2, comp, g3⟩, kA, comp, g2, g3, g1, g4⟩
set_option maxRecDepth 100000 in
theorem env_of {s : State} {args : Array Value} (hts : ∀ w ∈ lw_tbl, w.before args s = true) : ∃ E : EnvT, EV E s := by
  obtain ⟨c0, i0, k0⟩ := u_known (C := RX0) (T := TX0) (N := 8) hts inX0 (hts (.instantiable RX0 8) (by decide +kernel))
  obtain ⟨c1, i1, k1⟩ := u_known (C := RX1) (T := TX1) (N := 4) hts inX1 (hts (.instantiable RX1 4) (by decide +kernel))
  obtain ⟨c2, i2, k2⟩ := u_known (C := RX2) (T := TX2) (N := 4) hts inX2 (hts (.instantiable RX2 4) (by decide +kernel))
  obtain ⟨c3, i3, k3⟩ := u_known (C := RX3) (T := TX3) (N := 7) hts inX3 (hts (.instantiable RX3 7) (by decide +kernel))
  obtain ⟨c4, i4, k4⟩ := u_known (C := RX4) (T := TX4) (N := 4) hts inX4 (hts (.instantiable RX4 4) (by decide +kernel))
  obtain ⟨c5, i5, k5⟩ := u_known (C := RX5) (T := TX5) (N := 2) hts inX5 (hts (.instantiable RX5 2) (by decide +kernel))
  obtain ⟨c6, i6, k6⟩ := u_known (C := RX6) (T := TX6) (N := 5) hts inX6 (hts (.instantiable RX6 5) (by decide +kernel))
  obtain ⟨c7, i7, k7⟩ := u_known (C := RX7) (T := TX7) (N := 5) hts inX7 (hts (.instantiable RX7 5) (by decide +kernel))
  obtain ⟨c8, i8, k8⟩ := u_known (C := RX8) (T := TX8) (N := 10) hts inX8 (hts (.instantiable RX8 10) (by decide +kernel))
  obtain ⟨c9, i9, k9⟩ := u_known (C := RX9) (T := TX9) (N := 32) hts inX9 (hts (.instantiable RX9 32) (by decide +kernel))
  obtain ⟨a0, b0, d0⟩ := arr_p (hts (.arrayClass .byte) (by decide +kernel))
  obtain ⟨a1, b1, d1⟩ := arr_p (hts (.arrayClass .int) (by decide +kernel))
  obtain ⟨a2, b2, d2⟩ := arr_p (hts (.arrayClass .long) (by decide +kernel))
  obtain ⟨a3, b3, d3⟩ := arr_p (hts (.arrayClass .boolean) (by decide +kernel))
  have o4 := hts (.arrayOver (.object "WornRings$Part")) (by decide +kernel)
  have o5 := hts (.arrayOver (.object "WornRings$Sheet")) (by decide +kernel)
  have o6 := hts (.arrayOver (.object "WornRings$Load")) (by decide +kernel)
  obtain ⟨a4, b4, d4⟩ := arr_o o4
  obtain ⟨a5, b5, d5⟩ := arr_o o5
  obtain ⟨a6, b6, d6⟩ := arr_o o6
  refine ⟨((fun j => [c0, c1, c2, c3, c4, c5, c6, c7, c8, c9].getD j 0, fun j => [i0, i1, i2, i3, i4, i5, i6, i7, i8, i9].getD j (fun _ => 0)), fun j => [a0, a1, a2, a3, a4, a5, a6].getD j 0), ⟨fun j q hq => ?_, fun j q hq => ?_⟩, fun w hw => va_Nw.of (nest_tab (List.all_eq_true.mp nestW_ok w hw)) (hts w (nestW_in w hw)), va_AO.of o4, va_AO.of o5, va_AO.of o6⟩
  · have hj : j < 10 := (List.getElem?_eq_some_iff.mp hq).1
    rcases (show j = 0 ∨ j = 1 ∨ j = 2 ∨ j = 3 ∨ j = 4 ∨ j = 5 ∨ j = 6 ∨ j = 7 ∨ j = 8 ∨ j = 9 by omega) with rfl | rfl | rfl | rfl | rfl | rfl | rfl | rfl | rfl | rfl
    · cases hq; exact k0
    · cases hq; exact k1
    · cases hq; exact k2
    · cases hq; exact k3
    · cases hq; exact k4
    · cases hq; exact k5
    · cases hq; exact k6
    · cases hq; exact k7
    · cases hq; exact k8
    · cases hq; exact k9
  · have hj : j < 7 := (List.getElem?_eq_some_iff.mp hq).1
    rcases (show j = 0 ∨ j = 1 ∨ j = 2 ∨ j = 3 ∨ j = 4 ∨ j = 5 ∨ j = 6 by omega) with rfl | rfl | rfl | rfl | rfl | rfl | rfl
    · cases hq; exact ⟨b0, d0⟩
    · cases hq; exact ⟨b1, d1⟩
    · cases hq; exact ⟨b2, d2⟩
    · cases hq; exact ⟨b3, d3⟩
    · cases hq; exact ⟨b4, d4⟩
    · cases hq; exact ⟨b5, d5⟩
    · cases hq; exact ⟨b6, d6⟩
theorem nin {j : Nat} (h : j < 9) : j = 0 ∨ j = 1 ∨ j = 2 ∨ j = 3 ∨ j = 4 ∨ j = 5 ∨ j = 6 ∨ j = 7 ∨ j = 8 := by omega
set_option maxRecDepth 100000 in
theorem quarter_of {s : State} {args : Array Value} (hts : ∀ w ∈ lw_tbl, w.before args s = true) (hg : (Jvm.Cond.and given_1 narrow_1).before args s = true) : ∃ tq : Nat, ∀ H : Heap, (∀ q : Nat, q < s.heap.size → H[q]? = s.heap[q]?) → EQh tq s H := by
  have hs := flat_of_before _ hg
  have har := hs (.arrayOf (.static "WornRings" "QUARTER" "[I") .int) (by decide +kernel)
  have hle : (Term.length (.static "WornRings" "QUARTER" "[I")).eval args s none [] s = some (.int (Int32.ofNat 9)) := va_eqt (hs (.eq (.length (.static "WornRings" "QUARTER" "[I")) (.int 9)) (by decide +kernel))
  have hel : ∀ j : Nat, j < 9 → (Term.elem (.static "WornRings" "QUARTER" "[I") (.int (Int32.ofNat j))).eval args s none [] s = some (.int (wvT j)) := by
    intro j hj
    rcases nin hj with rfl | rfl | rfl | rfl | rfl | rfl | rfl | rfl | rfl
    · exact va_eqt (hs (.eq (.elem (.static "WornRings" "QUARTER" "[I") (.int 0)) (.int 1000)) (by decide +kernel))
    · exact va_eqt (hs (.eq (.elem (.static "WornRings" "QUARTER" "[I") (.int 1)) (.int 981)) (by decide +kernel))
    · exact va_eqt (hs (.eq (.elem (.static "WornRings" "QUARTER" "[I") (.int 2)) (.int 924)) (by decide +kernel))
    · exact va_eqt (hs (.eq (.elem (.static "WornRings" "QUARTER" "[I") (.int 3)) (.int 831)) (by decide +kernel))
    · exact va_eqt (hs (.eq (.elem (.static "WornRings" "QUARTER" "[I") (.int 4)) (.int 707)) (by decide +kernel))
    · exact va_eqt (hs (.eq (.elem (.static "WornRings" "QUARTER" "[I") (.int 5)) (.int 556)) (by decide +kernel))
    · exact va_eqt (hs (.eq (.elem (.static "WornRings" "QUARTER" "[I") (.int 6)) (.int 383)) (by decide +kernel))
    · exact va_eqt (hs (.eq (.elem (.static "WornRings" "QUARTER" "[I") (.int 7)) (.int 195)) (by decide +kernel))
    · exact va_eqt (hs (.eq (.elem (.static "WornRings" "QUARTER" "[I") (.int 8)) (.int 0)) (by decide +kernel))
  obtain ⟨tq, htq, hT⟩ := va_Tof (f := fun j => .int (wvT j)) (A := fun _ => False) (by decide) har hle hel (fun _ _ h => h)
  have hZ : va_Z "WornRings" "QUARTER" "[I" (.ref tq) (fun _ => False) s s.heap := va_Zof (hts (.laysStatic "WornRings" "QUARTER" "[I") (by decide +kernel)) (hts (.initialized "WornRings") (by decide +kernel)) htq (fun _ _ h => h)
  refine ⟨tq, fun H hH => ⟨?_, ?_⟩⟩
  · obtain ⟨cf, kf, fi, f, a, cell, h1, h2, h3, h4, h5, h6⟩ := hZ
    exact ⟨cf, kf, fi, f, a, cell, h1, h2, h3, h4, by rw [hH a (Array.getElem?_eq_some_iff.mp h5).1]; exact h5, h6⟩
  · obtain ⟨cell, h1, h2⟩ := hT
    exact ⟨cell, by rw [hH tq (Array.getElem?_eq_some_iff.mp h1).1]; exact h1, h2⟩
set_option maxHeartbeats 4000000 in
set_option maxRecDepth 100000 in
theorem law_start {p : Program} {l : Launch} {e : Env} {s : State} {m : MethodId} {below : List Frame} {meth : Method} {c : Code} {b L : Nat} {xs : Nat → Int32} {E : EnvT} {tq : Nat} {Q : State → Prop} {ls : Array Slot} (C : LC p s m c b L xs E tq) (hl : lv_has ls 4 [(0, .ref b)]) 
    (hx : ∀ (H : Heap) (locs : List Loc) (ls : Array Slot) (cells slots : Nat), va_S (AA s) s.heap H locs → cells ≤ 600000 → slots ≤ 7302250 → W p l e room_1 s m #[Value.ref b] below meth c H locs cells slots Q (F0 m 960 ls [])) : W p l e room_1 s m #[Value.ref b] below meth c s.heap [] 0 0 Q (F0 m 0 ls []) := by
  have hL := C.hL
  have hP0 : va_P E.1 vwCl [] s.heap := fun k q hk => by cases hk
  have hD0 : va_D (AA s) [] := ⟨fun i j p q h => (by cases h), fun k q hk => (by cases hk)⟩
  have hS0 : va_S (AA s) s.heap s.heap [] := ⟨Nat.le_refl _, fun _ _ _ => rfl, fun l h => absurd h List.not_mem_nil⟩
  have hA : ∀ q, s.heap.size ≤ q → AA s q := fun _ h => h
  refine va_new (ci := 8) (fs := [.null, .null, .null, .null, .null, .null, .null, .int 0, .int 0, .int 0]) (C := RX8) (T := TX8) (N := 10) C.hx C.hb C.hts inlX8 tyX8 tyX8_ok C.hown (C.hts (.classLink RL 7 RX8) (by decide +kernel)) (C.hts (.instantiable RX8 10) (by decide +kernel)) (C.hts (.initialized RX8) (by decide +kernel)) C.hE.1 hP0 hD0 hS0 hA rfl (by decide +kernel) (Nat.le_of_ble_eq_true rfl) (Nat.le_of_ble_eq_true rfl) dL_law_0 (fun g H1 hP1 hD1 hS1 => ?_)
  refine lv_dup C.hx C.hb dL_law_3 rfl ?_
  refine wIv (wr := []) C.hE ⟨C.hx, C.hb, C.hml, C.hown, C.hts⟩ (c_X8_init l E H1.size g) (cwI 0 C.hts gL_law_X8_init rfl rfl rfl (C.hts (.initialized RX8) (by decide +kernel)) (C.hts (.methodLink RL 9 yX8_init) (by decide +kernel)) (C.hts (.instanceMethod yX8_init) (by decide +kernel)) rfl (by decide +kernel) ⟨Nat.le_of_ble_eq_true rfl, Nat.le_of_ble_eq_true rfl⟩) hP1 hD1 hS1 hA [0] [] rfl rfl (by decide) (by decide) (by decide) rfl hl.1 rfl (Nat.le_of_ble_eq_true rfl) dL_law_4 ⟨Nat.le_of_ble_eq_true rfl, Nat.le_of_ble_eq_true rfl⟩ (fun u H2 locs2 _ hP2 hD2 hS2 => ?_)
  obtain ⟨u0, u1, u2, u3, u4, u5, u6, u7, u8, u9, u10, u11, u12, u13, u14, u15, u16, u17, u18, u19, u20, u21, u22, u23, u24, u25, u26, u27, u28, u29, u30, u31, u32, u33, u34, u35, u36, u37, u38⟩ := u
  have hP2 : va_P E.1 vwCl (wC E (zI [g, u0, u9, u11, u12, u14, u17, u22, u1, u2, u3, u4, u5, u10, u13, u15, u16, u18, u19, u20, u21] [u23, u24, u25, u26, u27, u28, u29, u30, u31, u32, u33, u34, u35, u36, u37, u38] u6 u7 u8) ++ prC E (PO u6 u7 u8 0 (updN (fun _ => 0) 0 1) (updN (fun _ => 0) 0 1))) H2 := hP2
  have hD2 : va_D (AA s) (wC E (zI [g, u0, u9, u11, u12, u14, u17, u22, u1, u2, u3, u4, u5, u10, u13, u15, u16, u18, u19, u20, u21] [u23, u24, u25, u26, u27, u28, u29, u30, u31, u32, u33, u34, u35, u36, u37, u38] u6 u7 u8) ++ prC E (PO u6 u7 u8 0 (updN (fun _ => 0) 0 1) (updN (fun _ => 0) 0 1))) := hD2
  refine lv_astore_n (lv' := [(1, .ref g), (0, .ref b)]) C.hx C.hb dL_law_7 rfl hl (by decide) rfl (fun ls1 hl1 => ?_)
  refine va_new (ci := 9) (fs := [.int 0, .null, .null, .null, .int 0, .null, .null, .null, .null, .long 0, .long 0, .int 0, .null, .int 0, .null, .null, .null, .null, .null, .int 0, .null, .null, .int 0, .null, .null, .int 0, .null, .null, .null, .null, .null, .null]) (C := RX9) (T := TX9) (N := 32) C.hx C.hb C.hts inlX9 tyX9 tyX9_ok C.hown (C.hts (.classLink RL 10 RX9) (by decide +kernel)) (C.hts (.instantiable RX9 32) (by decide +kernel)) (C.hts (.initialized RX9) (by decide +kernel)) C.hE.1 hP2 hD2 hS2 hA rfl (by decide +kernel) (Nat.le_of_ble_eq_true rfl) (Nat.le_of_ble_eq_true rfl) dL_law_8 (fun m9 H3 hP3 hD3 hS3 => ?_)
  refine lv_dup C.hx C.hb dL_law_11 rfl ?_
  refine wIv (wr := wC E (zI [g, u0, u9, u11, u12, u14, u17, u22, u1, u2, u3, u4, u5, u10, u13, u15, u16, u18, u19, u20, u21] [u23, u24, u25, u26, u27, u28, u29, u30, u31, u32, u33, u34, u35, u36, u37, u38] u6 u7 u8) ++ prC E (PO u6 u7 u8 0 (updN (fun _ => 0) 0 1) (updN (fun _ => 0) 0 1))) C.hE ⟨C.hx, C.hb, C.hml, C.hown, C.hts⟩ (c_X9_init l E H3.size m9) (cwI 0 C.hts gL_law_X9_init rfl rfl rfl (C.hts (.initialized RX9) (by decide +kernel)) (C.hts (.methodLink RL 12 yX9_init) (by decide +kernel)) (C.hts (.instanceMethod yX9_init) (by decide +kernel)) rfl (by decide +kernel) ⟨Nat.le_of_ble_eq_true rfl, Nat.le_of_ble_eq_true rfl⟩) hP3 hD3 hS3 hA [40] [0, 1, 2, 3, 4, 5, 6, 7, 8, 9, 10, 11, 12, 13, 14, 15, 16, 17, 18, 19, 20, 21, 22, 23, 24, 25, 26, 27, 28, 29, 30, 31, 32, 33, 34, 35, 36, 37, 38, 39] rfl rfl (by decide) (by decide) (by decide) rfl hl1.1 rfl (Nat.le_of_ble_eq_true rfl) dL_law_12 ⟨Nat.le_of_ble_eq_true rfl, Nat.le_of_ble_eq_true rfl⟩ (fun v H4 locs4 _ hP4 hD4 hS4 => ?_)
  obtain ⟨v0, v1, v2, v3, v4, v5, v6, v7, v8, v9, v10, v11, v12, v13, v14, v15, v16, v17, v18, v19, v20, v21, v22⟩ := v
  have hP4 : va_P E.1 vwCl ((wC E (zI [g, u0, u9, u11, u12, u14, u17, u22, u1, u2, u3, u4, u5, u10, u13, u15, u16, u18, u19, u20, u21, m9, v0, v1, v2, v3, v4, v5, v6, v7, v8, v9, v10, v11, v12, v13, v14, v15, v16, v17, v18, v19, v20, v21, v22] [u23, u24, u25, u26, u27, u28, u29, u30, u31, u32, u33, u34, u35, u36, u37, u38] u6 u7 u8) ++ prC E (PO u6 u7 u8 0 (updN (fun _ => 0) 0 1) (updN (fun _ => 0) 0 1))) ++ wM E (zI [g, u0, u9, u11, u12, u14, u17, u22, u1, u2, u3, u4, u5, u10, u13, u15, u16, u18, u19, u20, u21, m9, v0, v1, v2, v3, v4, v5, v6, v7, v8, v9, v10, v11, v12, v13, v14, v15, v16, v17, v18, v19, v20, v21, v22] [u23, u24, u25, u26, u27, u28, u29, u30, u31, u32, u33, u34, u35, u36, u37, u38] u6 u7 u8)) H4 := hP4
  have hD4 : va_D (AA s) ((wC E (zI [g, u0, u9, u11, u12, u14, u17, u22, u1, u2, u3, u4, u5, u10, u13, u15, u16, u18, u19, u20, u21, m9, v0, v1, v2, v3, v4, v5, v6, v7, v8, v9, v10, v11, v12, v13, v14, v15, v16, v17, v18, v19, v20, v21, v22] [u23, u24, u25, u26, u27, u28, u29, u30, u31, u32, u33, u34, u35, u36, u37, u38] u6 u7 u8) ++ prC E (PO u6 u7 u8 0 (updN (fun _ => 0) 0 1) (updN (fun _ => 0) 0 1))) ++ wM E (zI [g, u0, u9, u11, u12, u14, u17, u22, u1, u2, u3, u4, u5, u10, u13, u15, u16, u18, u19, u20, u21, m9, v0, v1, v2, v3, v4, v5, v6, v7, v8, v9, v10, v11, v12, v13, v14, v15, v16, v17, v18, v19, v20, v21, v22] [u23, u24, u25, u26, u27, u28, u29, u30, u31, u32, u33, u34, u35, u36, u37, u38] u6 u7 u8)) := hD4
  have hpm : ((wC E (zI [g, u0, u9, u11, u12, u14, u17, u22, u1, u2, u3, u4, u5, u10, u13, u15, u16, u18, u19, u20, u21, m9, v0, v1, v2, v3, v4, v5, v6, v7, v8, v9, v10, v11, v12, v13, v14, v15, v16, v17, v18, v19, v20, v21, v22] [u23, u24, u25, u26, u27, u28, u29, u30, u31, u32, u33, u34, u35, u36, u37, u38] u6 u7 u8) ++ prC E (PO u6 u7 u8 0 (updN (fun _ => 0) 0 1) (updN (fun _ => 0) 0 1))) ++ wM E (zI [g, u0, u9, u11, u12, u14, u17, u22, u1, u2, u3, u4, u5, u10, u13, u15, u16, u18, u19, u20, u21, m9, v0, v1, v2, v3, v4, v5, v6, v7, v8, v9, v10, v11, v12, v13, v14, v15, v16, v17, v18, v19, v20, v21, v22] [u23, u24, u25, u26, u27, u28, u29, u30, u31, u32, u33, u34, u35, u36, u37, u38] u6 u7 u8)).Perm (wC E (zI [g, u0, u9, u11, u12, u14, u17, u22, u1, u2, u3, u4, u5, u10, u13, u15, u16, u18, u19, u20, u21, m9, v0, v1, v2, v3, v4, v5, v6, v7, v8, v9, v10, v11, v12, v13, v14, v15, v16, v17, v18, v19, v20, v21, v22] [u23, u24, u25, u26, u27, u28, u29, u30, u31, u32, u33, u34, u35, u36, u37, u38] u6 u7 u8) ++ (wM E (zI [g, u0, u9, u11, u12, u14, u17, u22, u1, u2, u3, u4, u5, u10, u13, u15, u16, u18, u19, u20, u21, m9, v0, v1, v2, v3, v4, v5, v6, v7, v8, v9, v10, v11, v12, v13, v14, v15, v16, v17, v18, v19, v20, v21, v22] [u23, u24, u25, u26, u27, u28, u29, u30, u31, u32, u33, u34, u35, u36, u37, u38] u6 u7 u8) ++ poolC E [(PO u6 u7 u8 0 (updN (fun _ => 0) 0 1) (updN (fun _ => 0) 0 1))])) := by
    rw [List.append_assoc, poolC_cons, show poolC E [] = [] from rfl, List.append_nil]
    exact List.Perm.append_left _ List.perm_append_comm
  refine lv_astore_n (lv' := [(2, .ref m9), (1, .ref g), (0, .ref b)]) C.hx C.hb dL_law_15 rfl hl1 (by decide) rfl (fun ls2 hl2 => ?_)
  refine lv_iconst (v := nI 0) C.hx C.hb dL_law_16 rfl ?_
  refine lv_istore_n (lv' := [(3, .int (nI 0)), (2, .ref m9), (1, .ref g), (0, .ref b)]) C.hx C.hb dL_law_17 rfl hl2 (by decide) rfl (fun ls3 hl3 => ?_)
  have hl4 : lv_has ls3 4 (lvL b (zI [g, u0, u9, u11, u12, u14, u17, u22, u1, u2, u3, u4, u5, u10, u13, u15, u16, u18, u19, u20, u21, m9, v0, v1, v2, v3, v4, v5, v6, v7, v8, v9, v10, v11, v12, v13, v14, v15, v16, v17, v18, v19, v20, v21, v22] [u23, u24, u25, u26, u27, u28, u29, u30, u31, u32, u33, u34, u35, u36, u37, u38] u6 u7 u8) (5 * 0)) := ⟨hl3.1, hl3.2.1, fun q hq => hl3.2.2 q (by
    have hq : q ∈ [(0, Value.ref b), (1, .ref g), (2, .ref m9), (3, .int (nI 0))] := hq
    simp only [List.mem_cons, List.not_mem_nil, or_false] at hq ⊢
    rcases hq with h | h | h | h
    · exact Or.inr (Or.inr (Or.inr h))
    · exact Or.inr (Or.inr (Or.inl h))
    · exact Or.inr (Or.inl h)
    · exact Or.inl h)⟩
  refine W.widen (k := 64 + 12 * 0) (n := 171947 + 44 * 0) (by omega) (by omega) ?_
  exact law_loop C hx 520 0 (zI [g, u0, u9, u11, u12, u14, u17, u22, u1, u2, u3, u4, u5, u10, u13, u15, u16, u18, u19, u20, u21, m9, v0, v1, v2, v3, v4, v5, v6, v7, v8, v9, v10, v11, v12, v13, v14, v15, v16, v17, v18, v19, v20, v21, v22] [u23, u24, u25, u26, u27, u28, u29, u30, u31, u32, u33, u34, u35, u36, u37, u38] u6 u7 u8) H4 locs4 ls3 hl4 (Rel_init _ _ _ _ _) (At.of (vaP_perm hpm hP4) (vaD_perm hpm hD4) hS4) (by omega) (by omega)
