/-! Part, Machine -/
def tA (x y : Nat) : Nat := x / Nat.gcd x y
def tB (x y : Nat) : Nat := y / Nat.gcd x y
def t1 (a : Nat) : Nat → Nat := updN (fun _ => 0) 0 a
def t2 (a b : Nat) : Nat → Nat := updN (t1 a) 1 b
def t3 (a b c : Nat) : Nat → Nat := updN (t2 a b) 2 c
theorem mod_half {x r : Nat} (h0 : 0 < r) (h : r < x) : 2 * (x % r) < x := by
  have h1 := Nat.mod_lt x h0
  have h2 := Nat.div_add_mod x r
  have h3 : 1 ≤ x / r := (Nat.le_div_iff_mul_le h0).mpr (by omega)
  have h4 : r * 1 ≤ r * (x / r) := Nat.mul_le_mul_left r h3
  omega
theorem lz {y : Nat} (h : 0 < y) (hy : y < 2 ^ 62) : ¬ lN y = 0 := fun h9 => absurd ((pk_lEQ (a := y) (b := 0) (by omega) (by omega)).mp h9) (by omega)
theorem gcdF_eq : ∀ (k r x y : Nat), x < 2 ^ 62 → y < 2 ^ 62 → y < 2 ^ k → gcdF (2 * k + r) (lN x) (lN y) = lN (Nat.gcd x y)
  | 0, r, x, y, hx, hy, h => by
    have e : y = 0 := by simp at h; exact h
    subst e
    rw [Nat.gcd_zero_right]
    cases r with
    | zero => rfl
    | succ r => rw [show 2 * 0 + (r + 1) = r + 1 by omega, gcdF, if_pos (show lN 0 = 0 from rfl)]
  | k + 1, r, x, y, hx, hy, h => by
    rw [show 2 * (k + 1) + r = (2 * k + r + 1) + 1 by omega, gcdF]
    rcases Nat.eq_zero_or_pos y with e | e
    · subst e; rw [if_pos (show lN 0 = 0 from rfl), Nat.gcd_zero_right]
    · rw [if_neg (lz e hy), pk_lRem (by omega) e (by omega), gcdF]
      have h1 := Nat.mod_lt x e
      have g1 : Nat.gcd x y = Nat.gcd y (x % y) := by rw [Nat.gcd_comm x y, Nat.gcd_rec y x, Nat.gcd_comm]
      rcases Nat.eq_zero_or_pos (x % y) with e2 | e2
      · rw [e2, if_pos (show lN 0 = 0 from rfl), g1, e2, Nat.gcd_zero_right]
      · rw [if_neg (lz e2 (by omega)), pk_lRem (by omega) e2 (by omega)]
        have h2 := mod_half e2 h1
        have h3 := Nat.mod_lt y e2
        rw [gcdF_eq k r (x % y) (y % (x % y)) (by omega) (by omega) (by rw [Nat.pow_succ] at h; omega), g1]
        rw [Nat.gcd_comm y (x % y), Nat.gcd_rec (x % y) y, Nat.gcd_comm]
theorem fCD_eq {x y : Nat} (hx0 : 0 < x) (hx : x < 2 ^ 42) (hy : y < 2 ^ 42) : fCD (lN x) (lN y) = lN (Nat.gcd x y) := by
  have h1 : gcdF 100 (lN x) (lN y) = lN (Nat.gcd x y) := gcdF_eq 42 16 x y (Nat.lt_trans hx (by decide)) (Nat.lt_trans hy (by decide)) hy
  have h2 : 0 < Nat.gcd x y := Nat.gcd_pos_of_pos_left _ hx0
  have h3 : Nat.gcd x y ≤ x := Nat.le_of_dvd hx0 (Nat.gcd_dvd_left x y)
  have h4 : Nat.gcd x y < 2 ^ 42 := Nat.lt_of_le_of_lt h3 hx
  have h5 : (2 : Nat) ^ 42 = 4398046511104 := by decide
  rw [fCD, h1, if_neg]
  exact fun h9 => absurd ((pk_lLT (a := Nat.gcd x y) (b := 1) (by omega) (by omega)).mp h9) (by omega)
def fFind (fo fg fr : Nat → Option Nat) (sh rg : Nat) (nu : Int32) : Option Nat := if nu < 0 ∨ nI (2 * sh - 1 + rg * 4) ≤ nu then none else if nu.toNatClampNeg < sh then fo nu.toNatClampNeg else if nu.toNatClampNeg - sh < sh - 1 then fg (nu.toNatClampNeg - sh) else fr (nu.toNatClampNeg - sh - (sh - 1))

set_option maxHeartbeats 1000000 in
set_option maxRecDepth 100000 in
theorem c_X6_init (l : Launch) (E : EnvT) (sz : Nat) (h0 : Nat) (kd : Int32) (se : Int32)  : Met l yX6_init wsX6_init ({ frames := 1, cells := 2, slots := 6, locals := 20 }) (va_Pc [.ref h0, .int kd, .int se] (PW E [(h0, .inr (6, [.int 0, .int 0, .null, .null, .int 0]))] sz)) (va_Qv (fun (uu : Nat × Nat) => True) (fun (uu : Nat × Nat) t => BW E (va_A [(h0, .inr (6, [.int 0, .int 0, .null, .null, .int 0]))] sz) [(h0, .inr (6, [.int kd, .int se, .ref uu.1, .ref uu.2, .int 0])), (uu.1, .inl (E.2 2, 3, .inr (.inl (lA (fun _ => 0))))), (uu.2, .inl (E.2 2, 3, .inr (.inl (lA (fun _ => 0)))))] t) (va_A [(h0, .inr (6, [.int 0, .int 0, .null, .null, .int 0]))] sz)) 2 6 (va_A [(h0, .inr (6, [.int 0, .int 0, .null, .null, .int 0]))] sz) := by
  refine Met.ofW (cc := cX6_init) (maxL := 3) (ret := none) (by decide +kernel) rfl ?_
  intro p e s m args below meth c s₁ B hml hv
  obtain ⟨rfl, hsz, hP, hE, hD0⟩ := hv
  have hx := B.exec
  have hb := B.bytes
  have hr := B.returns
  have hts := atoms_spec (ws := wsX6_init) B.pre
  have hown : s.vm.findClass RX6 = some m.cls := findClass_of_methodNamed B.named
  have hlocks := B.notSynchronized
  have hK := hE.1
  have hNN := hE.2.1
  have hin : meth.name = "<init>" := (name_of_methodNamed B.named B.method).1
  have hinX6 : ∀ w ∈ wsX60, w ∈ wsX6_init := fun w h => List.mem_cons_of_mem _ (List.mem_append_right _ h)
  subst hsz
  have hD := hD0.self (sz := s.heap.size)
  generalize hAe : va_A [(h0, .inr (6, [.int 0, .int 0, .null, .null, .int 0]))] s.heap.size = A at hD ⊢
  have hA : ∀ q : Nat, s.heap.size ≤ q → A q := fun q h => by rw [← hAe]; exact Or.inr h
  have hS : va_S A s.heap s.heap [] := va_S.rf
  have hl := lv_entry ([.ref h0, .int kd, .int se]) (n := 3) (Nat.le_of_ble_eq_true rfl)
  rw [lg_entry_eq]
  generalize (lg_sl ([.ref h0, .int kd, .int se]) ++ List.replicate (3 - (lg_sl ([.ref h0, .int kd, .int se])).length) Slot.unset).toArray = ls at hl ⊢
  have hl : lv_has ls 3 [(0, .ref h0), (1, .int kd), (2, .int se)] := hl
  refine lv_aload_n hx hb dX6_init_0 rfl (lv_at hl 0 rfl) ?_
  refine W.objInit hx hb hown (hts (.methodLink RX6 3 objectInit) (by decide +kernel)) (hts (.instanceMethod objectInit) (by decide +kernel)) (hts _ (List.mem_cons_of_mem _ (List.mem_append_left _ (List.mem_of_getElem? (i := 2) rfl)))) rfl (by rw [hml]; exact hl.1) rfl dX6_init_1 (Nat.le_of_ble_eq_true rfl) (Nat.le_of_ble_eq_true rfl) ?_
  refine W.eq (g2 := F0 m 4 ls []) rfl ?_
  refine lv_aload_n hx hb dX6_init_4 rfl (lv_at hl 0 rfl) ?_
  refine lv_iconst (v := 3) hx hb dX6_init_5 (by decide) ?_
  refine va_newa (atype := .long) (ty := .long) (N' := 3) (a0 := (3, .inr (.inl (fun _ => 0)))) hx hb (hts (.arrayClass .long) (by decide +kernel)) rfl hK hP hD hS hA (newJ _) (by decide) (by decide) (bytesJ (Nat.le_of_ble_eq_true rfl)) (Nat.le_of_ble_eq_true rfl) (Nat.le_of_ble_eq_true rfl) dX6_init_6 (fun q6 cA H hK9 hP hD hS => ?_)
  obtain rfl : cA = E.2 2 := arrcl hK9 2 rfl rfl
  have hP : va_P E.1 vwCl [(h0, .inr (6, [.int 0, .int 0, .null, .null, .int 0])), (q6, .inl (E.2 2, 3, .inr (.inl (fun _ => 0))))] H := hP
  have hD : va_D A [(h0, .inr (6, [.int 0, .int 0, .null, .null, .int 0])), (q6, .inl (E.2 2, 3, .inr (.inl (fun _ => 0))))] := hD
  refine W.widen (k := 1) (n := 3) (by omega) (by omega) ?_
  refine va_putF (D := E.1) (ci := 6) (v := .ref q6) (ty := .array .long) (C := RX6) (T := TX6) (N := 5) hx hb hts hinX6 tyX6 tyX6_ok nmX6 hown hK hP hD hS 0 rfl rfl 2 (by decide) (hts (.fieldLink RX6 9 "WornRings$Part" "above" "[J") (by decide +kernel)) (fun _ h9 => h9) rfl hin rfl (by decide +kernel) (rfl) (rfl) (Nat.le_of_ble_eq_true rfl) dX6_init_8 (fun H locs hP hD hS => ?_)
  have hP : va_P E.1 vwCl [(h0, .inr (6, [.int 0, .int 0, .ref q6, .null, .int 0])), (q6, .inl (E.2 2, 3, .inr (.inl (fun _ => 0))))] H := hP
  have hD : va_D A [(h0, .inr (6, [.int 0, .int 0, .ref q6, .null, .int 0])), (q6, .inl (E.2 2, 3, .inr (.inl (fun _ => 0))))] := hD
  refine lv_aload_n hx hb dX6_init_11 rfl (lv_at hl 0 rfl) ?_
  refine lv_iconst (v := 3) hx hb dX6_init_12 (by decide) ?_
  refine va_newa (atype := .long) (ty := .long) (N' := 3) (a0 := (3, .inr (.inl (fun _ => 0)))) hx hb (hts (.arrayClass .long) (by decide +kernel)) rfl hK hP hD hS hA (newJ _) (by decide) (by decide) (bytesJ (Nat.le_of_ble_eq_true rfl)) (Nat.le_of_ble_eq_true rfl) (Nat.le_of_ble_eq_true rfl) dX6_init_13 (fun q13 cA H hK9 hP hD hS => ?_)
  obtain rfl : cA = E.2 2 := arrcl hK9 2 rfl rfl
  have hP : va_P E.1 vwCl [(h0, .inr (6, [.int 0, .int 0, .ref q6, .null, .int 0])), (q6, .inl (E.2 2, 3, .inr (.inl (fun _ => 0)))), (q13, .inl (E.2 2, 3, .inr (.inl (fun _ => 0))))] H := hP
  have hD : va_D A [(h0, .inr (6, [.int 0, .int 0, .ref q6, .null, .int 0])), (q6, .inl (E.2 2, 3, .inr (.inl (fun _ => 0)))), (q13, .inl (E.2 2, 3, .inr (.inl (fun _ => 0))))] := hD
  refine W.widen (k := 2) (n := 6) (by omega) (by omega) ?_
  refine va_putF (D := E.1) (ci := 6) (v := .ref q13) (ty := .array .long) (C := RX6) (T := TX6) (N := 5) hx hb hts hinX6 tyX6 tyX6_ok nmX6 hown hK hP hD hS 0 rfl rfl 3 (by decide) (hts (.fieldLink RX6 15 "WornRings$Part" "below" "[J") (by decide +kernel)) (fun _ h9 => h9) rfl hin rfl (by decide +kernel) (rfl) (rfl) (Nat.le_of_ble_eq_true rfl) dX6_init_15 (fun H locs hP hD hS => ?_)
  have hP : va_P E.1 vwCl [(h0, .inr (6, [.int 0, .int 0, .ref q6, .ref q13, .int 0])), (q6, .inl (E.2 2, 3, .inr (.inl (fun _ => 0)))), (q13, .inl (E.2 2, 3, .inr (.inl (fun _ => 0))))] H := hP
  have hD : va_D A [(h0, .inr (6, [.int 0, .int 0, .ref q6, .ref q13, .int 0])), (q6, .inl (E.2 2, 3, .inr (.inl (fun _ => 0)))), (q13, .inl (E.2 2, 3, .inr (.inl (fun _ => 0))))] := hD
  refine lv_aload_n hx hb dX6_init_18 rfl (lv_at hl 0 rfl) ?_
  refine lv_iload_n hx hb dX6_init_19 rfl (lv_at hl 1 rfl) ?_
  refine va_putF (D := E.1) (ci := 6) (v := .int kd) (ty := .int) (C := RX6) (T := TX6) (N := 5) hx hb hts hinX6 tyX6 tyX6_ok nmX6 hown hK hP hD hS 0 rfl rfl 0 (by decide) (hts (.fieldLink RX6 18 "WornRings$Part" "kind" "I") (by decide +kernel)) (fun _ h9 => h9) rfl hin rfl (by decide +kernel) (rfl) (rfl) (Nat.le_of_ble_eq_true rfl) dX6_init_20 (fun H locs hP hD hS => ?_)
  have hP : va_P E.1 vwCl [(h0, .inr (6, [.int kd, .int 0, .ref q6, .ref q13, .int 0])), (q6, .inl (E.2 2, 3, .inr (.inl (fun _ => 0)))), (q13, .inl (E.2 2, 3, .inr (.inl (fun _ => 0))))] H := hP
  have hD : va_D A [(h0, .inr (6, [.int kd, .int 0, .ref q6, .ref q13, .int 0])), (q6, .inl (E.2 2, 3, .inr (.inl (fun _ => 0)))), (q13, .inl (E.2 2, 3, .inr (.inl (fun _ => 0))))] := hD
  refine lv_aload_n hx hb dX6_init_23 rfl (lv_at hl 0 rfl) ?_
  refine lv_iload_n hx hb dX6_init_24 rfl (lv_at hl 2 rfl) ?_
  refine va_putF (D := E.1) (ci := 6) (v := .int se) (ty := .int) (C := RX6) (T := TX6) (N := 5) hx hb hts hinX6 tyX6 tyX6_ok nmX6 hown hK hP hD hS 0 rfl rfl 1 (by decide) (hts (.fieldLink RX6 22 "WornRings$Part" "seat" "I") (by decide +kernel)) (fun _ h9 => h9) rfl hin rfl (by decide +kernel) (rfl) (rfl) (Nat.le_of_ble_eq_true rfl) dX6_init_25 (fun H locs hP hD hS => ?_)
  have hP : va_P E.1 vwCl [(h0, .inr (6, [.int kd, .int se, .ref q6, .ref q13, .int 0])), (q6, .inl (E.2 2, 3, .inr (.inl (fun _ => 0)))), (q13, .inl (E.2 2, 3, .inr (.inl (fun _ => 0))))] H := hP
  have hD : va_D A [(h0, .inr (6, [.int kd, .int se, .ref q6, .ref q13, .int 0])), (q6, .inl (E.2 2, 3, .inr (.inl (fun _ => 0)))), (q13, .inl (E.2 2, 3, .inr (.inl (fun _ => 0))))] := hD
  have e9 : ([(h0, .inr (6, [.int kd, .int se, .ref q6, .ref q13, .int 0])), (q6, .inl (E.2 2, 3, .inr (.inl (lA (fun _ => 0))))), (q13, .inl (E.2 2, 3, .inr (.inl (lA (fun _ => 0)))))] : va_W) = [(h0, .inr (6, [.int kd, .int se, .ref q6, .ref q13, .int 0])), (q6, .inl (E.2 2, 3, .inr (.inl (fun _ => 0)))), (q13, .inl (E.2 2, 3, .inr (.inl (fun _ => 0))))] := by rfl
  have hP9 : va_P E.1 vwCl [(h0, .inr (6, [.int kd, .int se, .ref q6, .ref q13, .int 0])), (q6, .inl (E.2 2, 3, .inr (.inl (lA (fun _ => 0))))), (q13, .inl (E.2 2, 3, .inr (.inl (lA (fun _ => 0)))))] H := by rw [e9]; exact hP.sub [0, 1, 2] rfl
  have hD9 : va_D A [(h0, .inr (6, [.int kd, .int se, .ref q6, .ref q13, .int 0])), (q6, .inl (E.2 2, 3, .inr (.inl (lA (fun _ => 0))))), (q13, .inl (E.2 2, 3, .inr (.inl (lA (fun _ => 0)))))] := by rw [e9]; exact hD.sub [0, 1, 2] (by decide) rfl
  exact W.vret hx hb hr (fun t9 ht9 hW9 => ⟨⟨(q6, q13), rfl, trivial, ⟨by rw [ht9]; exact hP9, hD9⟩⟩, hS.F ht9⟩) hS.2.2 dX6_init_28
set_option maxHeartbeats 1000000 in
set_option maxRecDepth 100000 in
theorem c_X6_addTone (l : Launch) (E : EnvT) (sz : Nat) (h1 : Nat) (kd : Int32) (se : Int32) (ua : Nat) (da : Nat) (pn : Nat) (Fa : Nat → Nat) (Fb : Nat → Nat) (x : Nat) (y : Nat) (hpn : pn < 3) (hx0 : 0 < x) (hx1 : x < 2 ^ 42) (hy0 : 0 < y) (hy1 : y < 2 ^ 42) : Met l yX6_addTone wsX6_addTone ({ frames := 2, cells := 0, slots := 0, locals := 53 }) (va_Pc [.ref h1, .long (lN x), .long (lN y)] (PW E [(h1, .inr (6, [.int kd, .int se, .ref ua, .ref da, .int (nI pn)])), (ua, .inl (E.2 2, 3, .inr (.inl (lA Fa)))), (da, .inl (E.2 2, 3, .inr (.inl (lA Fb))))] sz)) (va_Qv (fun (uu : Unit) => True) (fun (uu : Unit) t => BW E (va_A [(h1, .inr (6, [.int kd, .int se, .ref ua, .ref da, .int (nI pn)])), (ua, .inl (E.2 2, 3, .inr (.inl (lA Fa)))), (da, .inl (E.2 2, 3, .inr (.inl (lA Fb))))] sz) [(h1, .inr (6, [.int kd, .int se, .ref ua, .ref da, .int (nI (pn + 1))])), (ua, .inl (E.2 2, 3, .inr (.inl (lA (updN Fa pn (tA x y)))))), (da, .inl (E.2 2, 3, .inr (.inl (lA (updN Fb pn (tB x y))))))] t) (va_A [(h1, .inr (6, [.int kd, .int se, .ref ua, .ref da, .int (nI pn)])), (ua, .inl (E.2 2, 3, .inr (.inl (lA Fa)))), (da, .inl (E.2 2, 3, .inr (.inl (lA Fb))))] sz)) 0 0 (va_A [(h1, .inr (6, [.int kd, .int se, .ref ua, .ref da, .int (nI pn)])), (ua, .inl (E.2 2, 3, .inr (.inl (lA Fa)))), (da, .inl (E.2 2, 3, .inr (.inl (lA Fb))))] sz) := by
  refine Met.ofW (cc := cX6_addTone) (maxL := 7) (ret := none) (by decide +kernel) rfl ?_
  intro p e s m args below meth c s₁ B hml hv
  obtain ⟨rfl, hsz, hP, hE, hD0⟩ := hv
  have hx := B.exec
  have hb := B.bytes
  have hr := B.returns
  have hts := atoms_spec (ws := wsX6_addTone) B.pre
  have hown : s.vm.findClass RX6 = some m.cls := findClass_of_methodNamed B.named
  have hlocks := B.notSynchronized
  have hK := hE.1
  have hNN := hE.2.1
  have hinX6 : ∀ w ∈ wsX60, w ∈ wsX6_addTone := fun w h => List.mem_cons_of_mem _ (List.mem_append_right _ h)
  subst hsz
  have hD := hD0.self (sz := s.heap.size)
  generalize hAe : va_A [(h1, .inr (6, [.int kd, .int se, .ref ua, .ref da, .int (nI pn)])), (ua, .inl (E.2 2, 3, .inr (.inl (lA Fa)))), (da, .inl (E.2 2, 3, .inr (.inl (lA Fb))))] s.heap.size = A at hD ⊢
  have hA : ∀ q : Nat, s.heap.size ≤ q → A q := fun q h => by rw [← hAe]; exact Or.inr h
  have hS : va_S A s.heap s.heap [] := va_S.rf
  have hl := lv_entry ([.ref h1, .long (lN x), .long (lN y)]) (n := 7) (Nat.le_of_ble_eq_true rfl)
  rw [lg_entry_eq]
  generalize (lg_sl ([.ref h1, .long (lN x), .long (lN y)]) ++ List.replicate (7 - (lg_sl ([.ref h1, .long (lN x), .long (lN y)])).length) Slot.unset).toArray = ls at hl ⊢
  have hl : lv_has ls 7 [(0, .ref h1), (1, .long (lN x)), (3, .long (lN y))] := hl
  have h5 : (2 : Nat) ^ 42 = 4398046511104 := by decide
  rw [h5] at hx1 hy1
  have hg0 : 0 < Nat.gcd x y := Nat.gcd_pos_of_pos_left _ hx0
  have hg1 : Nat.gcd x y ≤ x := Nat.le_of_dvd hx0 (Nat.gcd_dvd_left x y)
  refine lv_aload_n hx hb dX6_addTone_0 rfl (lv_at hl 0 rfl) ?_
  refine va_get (D := E.1) (ci := 6) (v := .int (nI pn)) (C := RX6) (T := TX6) (N := 5) hx hb hts hinX6 hown hK hP 0 rfl rfl 4 (by decide) (hts (.fieldLink RX6 25 "WornRings$Part" "count" "I") (by decide +kernel)) (fun _ h9 => h9) rfl dX6_addTone_1 ?_
  refine lv_iconst (v := 3) hx hb dX6_addTone_4 (by decide) ?_
  refine lv_icmp_lt (tgt := 9) hx hb dX6_addTone_5 (by decide) (fun c_5 => ?_) (fun c_5 => by exfalso; have c_5 : ¬ pn < 3 := fun h9 => c_5 ((nI_ltI (a := pn) (b := 3) (by omega) (by omega)).mpr h9); omega)
  have c_5 : pn < 3 := (nI_ltI (a := pn) (b := 3) (by omega) (by omega)).mp c_5
  refine lv_lload_n hx hb dX6_addTone_9 rfl (lv_at hl 1 rfl) ?_
  refine lv_lload_n hx hb dX6_addTone_10 rfl (lv_at hl 2 rfl) ?_
  refine rSNl hE ⟨hx, hb, hml, hown, hts⟩ (c_X8_commonDivisor l E (lN x) (lN y) ) ⟨va_cnB 2 hts gX6_addTone_X8_commonDivisor_n28 rfl rfl rfl (hNN (.methodLinkNest RX6 28 yX8_commonDivisor "WornRings") (by decide +kernel)) (hts (.initialized RX8) (by decide +kernel)) (by decide +kernel) ⟨Nat.le_of_ble_eq_true rfl, Nat.le_of_ble_eq_true rfl⟩, hts (.static yX8_commonDivisor) (by decide +kernel), trivial⟩ (hP.sub [] rfl) rfl hl.1 rfl (Nat.le_of_ble_eq_true rfl) dX6_addTone_11 ⟨(Nat.zero_le _), (Nat.zero_le _)⟩ ?_
  rw [show (fCD (lN x) (lN y) : Int64) = lN (Nat.gcd x y) from fCD_eq hx0 (by omega) (by omega)]
  refine lv_lstore (lv' := [(5, .long (lN (Nat.gcd x y))), (0, .ref h1), (1, .long (lN x)), (3, .long (lN y))]) hx hb dX6_addTone_14 hl (by decide) rfl (fun ls hl => ?_)
  refine lv_aload_n hx hb dX6_addTone_16 rfl (lv_at hl 1 rfl) ?_
  refine va_get (D := E.1) (ci := 6) (v := .ref ua) (C := RX6) (T := TX6) (N := 5) hx hb hts hinX6 hown hK hP 0 rfl rfl 2 (by decide) (hts (.fieldLink RX6 9 "WornRings$Part" "above" "[J") (by decide +kernel)) (fun _ h9 => h9) rfl dX6_addTone_17 ?_
  refine lv_aload_n hx hb dX6_addTone_20 rfl (lv_at hl 1 rfl) ?_
  refine va_get (D := E.1) (ci := 6) (v := .int (nI pn)) (C := RX6) (T := TX6) (N := 5) hx hb hts hinX6 hown hK hP 0 rfl rfl 4 (by decide) (hts (.fieldLink RX6 25 "WornRings$Part" "count" "I") (by decide +kernel)) (fun _ h9 => h9) rfl dX6_addTone_21 ?_
  refine lv_lload_n hx hb dX6_addTone_24 rfl (lv_at hl 2 rfl) ?_
  refine lv_lload hx hb dX6_addTone_25 (lv_at hl 0 rfl) ?_
  refine lv_ldiv hx hb dX6_addTone_27 (lz hg0 (by omega)) ?_
  rw [show ((lN x) / (lN (Nat.gcd x y)) : Int64) = lN (x / (Nat.gcd x y)) from pk_lDiv (a := x) (b := Nat.gcd x y) (by omega) (by omega) (by omega)]
  refine va_last hx hb hK hP hD hS 1 2 rfl rfl (vp_in_nI (by omega) (by omega)) dX6_addTone_28 (fun H locs hP hD hS => ?_)
  rw [nI_clamp (n := pn) (by omega)] at hP hD
  rw [show vp_updL (lA Fa) pn (lN (x / (Nat.gcd x y))) = lA (updN Fa pn (x / (Nat.gcd x y))) from upd_lA _ _ _] at hP hD
  have hP : va_P E.1 vwCl [(h1, .inr (6, [.int kd, .int se, .ref ua, .ref da, .int (nI pn)])), (ua, .inl (E.2 2, 3, .inr (.inl (lA (updN Fa pn (x / (Nat.gcd x y))))))), (da, .inl (E.2 2, 3, .inr (.inl (lA Fb))))] H := hP
  have hD : va_D A [(h1, .inr (6, [.int kd, .int se, .ref ua, .ref da, .int (nI pn)])), (ua, .inl (E.2 2, 3, .inr (.inl (lA (updN Fa pn (x / (Nat.gcd x y))))))), (da, .inl (E.2 2, 3, .inr (.inl (lA Fb))))] := hD
  refine lv_aload_n hx hb dX6_addTone_29 rfl (lv_at hl 1 rfl) ?_
  refine va_get (D := E.1) (ci := 6) (v := .ref da) (C := RX6) (T := TX6) (N := 5) hx hb hts hinX6 hown hK hP 0 rfl rfl 3 (by decide) (hts (.fieldLink RX6 15 "WornRings$Part" "below" "[J") (by decide +kernel)) (fun _ h9 => h9) rfl dX6_addTone_30 ?_
  refine lv_aload_n hx hb dX6_addTone_33 rfl (lv_at hl 1 rfl) ?_
  refine va_get (D := E.1) (ci := 6) (v := .int (nI pn)) (C := RX6) (T := TX6) (N := 5) hx hb hts hinX6 hown hK hP 0 rfl rfl 4 (by decide) (hts (.fieldLink RX6 25 "WornRings$Part" "count" "I") (by decide +kernel)) (fun _ h9 => h9) rfl dX6_addTone_34 ?_
  refine lv_lload_n hx hb dX6_addTone_37 rfl (lv_at hl 3 rfl) ?_
  refine lv_lload hx hb dX6_addTone_38 (lv_at hl 0 rfl) ?_
  refine lv_ldiv hx hb dX6_addTone_40 (lz hg0 (by omega)) ?_
  rw [show ((lN y) / (lN (Nat.gcd x y)) : Int64) = lN (y / (Nat.gcd x y)) from pk_lDiv (a := y) (b := Nat.gcd x y) (by omega) (by omega) (by omega)]
  refine va_last hx hb hK hP hD hS 2 2 rfl rfl (vp_in_nI (by omega) (by omega)) dX6_addTone_41 (fun H locs hP hD hS => ?_)
  rw [nI_clamp (n := pn) (by omega)] at hP hD
  rw [show vp_updL (lA Fb) pn (lN (y / (Nat.gcd x y))) = lA (updN Fb pn (y / (Nat.gcd x y))) from upd_lA _ _ _] at hP hD
  have hP : va_P E.1 vwCl [(h1, .inr (6, [.int kd, .int se, .ref ua, .ref da, .int (nI pn)])), (ua, .inl (E.2 2, 3, .inr (.inl (lA (updN Fa pn (x / (Nat.gcd x y))))))), (da, .inl (E.2 2, 3, .inr (.inl (lA (updN Fb pn (y / (Nat.gcd x y)))))))] H := hP
  have hD : va_D A [(h1, .inr (6, [.int kd, .int se, .ref ua, .ref da, .int (nI pn)])), (ua, .inl (E.2 2, 3, .inr (.inl (lA (updN Fa pn (x / (Nat.gcd x y))))))), (da, .inl (E.2 2, 3, .inr (.inl (lA (updN Fb pn (y / (Nat.gcd x y)))))))] := hD
  refine lv_aload_n hx hb dX6_addTone_42 rfl (lv_at hl 1 rfl) ?_
  refine lv_dup hx hb dX6_addTone_43 rfl ?_
  refine va_get (D := E.1) (ci := 6) (v := .int (nI pn)) (C := RX6) (T := TX6) (N := 5) hx hb hts hinX6 hown hK hP 0 rfl rfl 4 (by decide) (hts (.fieldLink RX6 25 "WornRings$Part" "count" "I") (by decide +kernel)) (fun _ h9 => h9) rfl dX6_addTone_44 ?_
  refine lv_iconst (v := 1) hx hb dX6_addTone_47 (by decide) ?_
  refine lv_iadd hx hb dX6_addTone_48 ?_
  rw [show ((nI pn) + (1 : Int32) : Int32) = nI (pn + 1) from nI_add pn 1]
  refine va_put (D := E.1) (ci := 6) (v := .int (nI (pn + 1))) (ty := .int) (C := RX6) (T := TX6) (N := 5) hx hb hts hinX6 tyX6 tyX6_ok nmX6 hown hK hP hD hS 0 rfl rfl 4 (by decide) (hts (.fieldLink RX6 25 "WornRings$Part" "count" "I") (by decide +kernel)) (fun _ h9 => h9) rfl (by decide +kernel) (rfl) (rfl) (Nat.le_of_ble_eq_true rfl) dX6_addTone_49 (fun H locs hP hD hS => ?_)
  have hP : va_P E.1 vwCl [(h1, .inr (6, [.int kd, .int se, .ref ua, .ref da, .int (nI (pn + 1))])), (ua, .inl (E.2 2, 3, .inr (.inl (lA (updN Fa pn (x / (Nat.gcd x y))))))), (da, .inl (E.2 2, 3, .inr (.inl (lA (updN Fb pn (y / (Nat.gcd x y)))))))] H := hP
  have hD : va_D A [(h1, .inr (6, [.int kd, .int se, .ref ua, .ref da, .int (nI (pn + 1))])), (ua, .inl (E.2 2, 3, .inr (.inl (lA (updN Fa pn (x / (Nat.gcd x y))))))), (da, .inl (E.2 2, 3, .inr (.inl (lA (updN Fb pn (y / (Nat.gcd x y)))))))] := hD
  have e9 : ([(h1, .inr (6, [.int kd, .int se, .ref ua, .ref da, .int (nI (pn + 1))])), (ua, .inl (E.2 2, 3, .inr (.inl (lA (updN Fa pn (tA x y)))))), (da, .inl (E.2 2, 3, .inr (.inl (lA (updN Fb pn (tB x y))))))] : va_W) = [(h1, .inr (6, [.int kd, .int se, .ref ua, .ref da, .int (nI (pn + 1))])), (ua, .inl (E.2 2, 3, .inr (.inl (lA (updN Fa pn (x / (Nat.gcd x y))))))), (da, .inl (E.2 2, 3, .inr (.inl (lA (updN Fb pn (y / (Nat.gcd x y)))))))] := by rfl
  have hP9 : va_P E.1 vwCl [(h1, .inr (6, [.int kd, .int se, .ref ua, .ref da, .int (nI (pn + 1))])), (ua, .inl (E.2 2, 3, .inr (.inl (lA (updN Fa pn (tA x y)))))), (da, .inl (E.2 2, 3, .inr (.inl (lA (updN Fb pn (tB x y))))))] H := by rw [e9]; exact hP.sub [0, 1, 2] rfl
  have hD9 : va_D A [(h1, .inr (6, [.int kd, .int se, .ref ua, .ref da, .int (nI (pn + 1))])), (ua, .inl (E.2 2, 3, .inr (.inl (lA (updN Fa pn (tA x y)))))), (da, .inl (E.2 2, 3, .inr (.inl (lA (updN Fb pn (tB x y))))))] := by rw [e9]; exact hD.sub [0, 1, 2] (by decide) rfl
  exact W.vret hx hb hr (fun t9 ht9 hW9 => ⟨⟨(), rfl, trivial, ⟨by rw [ht9]; exact hP9, hD9⟩⟩, hS.F ht9⟩) hS.2.2 dX6_addTone_52
set_option maxHeartbeats 1000000 in
set_option maxRecDepth 100000 in
theorem c_X3_addMultiple (l : Launch) (E : EnvT) (sz : Nat) (h0 : Nat) (aa : Nat) (ab : Nat) (ao : Nat) (ag : Nat) (ar : Nat) (sh : Int32) (rg : Int32) (U : Nat → Nat) (V : Nat → Nat) (h1 : Nat) (kd : Int32) (se : Nat) (ua : Nat) (da : Nat) (pn : Nat) (Fa : Nat → Nat) (Fb : Nat → Nat) (up : Nat) (dn : Nat) (hpn : pn < 3) (hse : se < 4) (hU1 : 0 < U se) (hU2 : U se ≤ 8000000) (hV1 : 0 < V se) (hV2 : V se ≤ 8000000) (hu1 : 0 < up) (hu2 : up ≤ 20000) (hd1 : 0 < dn) (hd2 : dn ≤ 20000) : Met l yX3_addMultiple wsX3_addMultiple ({ frames := 3, cells := 0, slots := 0, locals := 79 }) (va_Pc [.ref h0, .ref h1, .int (nI up), .int (nI dn)] (PW E [(h0, .inr (3, [.ref aa, .ref ab, .ref ao, .ref ag, .ref ar, .int sh, .int rg])), (aa, .inl (E.2 2, 4, .inr (.inl (lA U)))), (ab, .inl (E.2 2, 4, .inr (.inl (lA V)))), (h1, .inr (6, [.int kd, .int (nI se), .ref ua, .ref da, .int (nI pn)])), (ua, .inl (E.2 2, 3, .inr (.inl (lA Fa)))), (da, .inl (E.2 2, 3, .inr (.inl (lA Fb))))] sz)) (va_Qv (fun (uu : Unit) => True) (fun (uu : Unit) t => BW E (va_A [(h0, .inr (3, [.ref aa, .ref ab, .ref ao, .ref ag, .ref ar, .int sh, .int rg])), (aa, .inl (E.2 2, 4, .inr (.inl (lA U)))), (ab, .inl (E.2 2, 4, .inr (.inl (lA V)))), (h1, .inr (6, [.int kd, .int (nI se), .ref ua, .ref da, .int (nI pn)])), (ua, .inl (E.2 2, 3, .inr (.inl (lA Fa)))), (da, .inl (E.2 2, 3, .inr (.inl (lA Fb))))] sz) [(h0, .inr (3, [.ref aa, .ref ab, .ref ao, .ref ag, .ref ar, .int sh, .int rg])), (aa, .inl (E.2 2, 4, .inr (.inl (lA U)))), (ab, .inl (E.2 2, 4, .inr (.inl (lA V)))), (h1, .inr (6, [.int kd, .int (nI se), .ref ua, .ref da, .int (nI (pn + 1))])), (ua, .inl (E.2 2, 3, .inr (.inl (lA (updN Fa pn (tA (U se * up) (V se * dn))))))), (da, .inl (E.2 2, 3, .inr (.inl (lA (updN Fb pn (tB (U se * up) (V se * dn)))))))] t) (va_A [(h0, .inr (3, [.ref aa, .ref ab, .ref ao, .ref ag, .ref ar, .int sh, .int rg])), (aa, .inl (E.2 2, 4, .inr (.inl (lA U)))), (ab, .inl (E.2 2, 4, .inr (.inl (lA V)))), (h1, .inr (6, [.int kd, .int (nI se), .ref ua, .ref da, .int (nI pn)])), (ua, .inl (E.2 2, 3, .inr (.inl (lA Fa)))), (da, .inl (E.2 2, 3, .inr (.inl (lA Fb))))] sz)) 0 0 (va_A [(h0, .inr (3, [.ref aa, .ref ab, .ref ao, .ref ag, .ref ar, .int sh, .int rg])), (aa, .inl (E.2 2, 4, .inr (.inl (lA U)))), (ab, .inl (E.2 2, 4, .inr (.inl (lA V)))), (h1, .inr (6, [.int kd, .int (nI se), .ref ua, .ref da, .int (nI pn)])), (ua, .inl (E.2 2, 3, .inr (.inl (lA Fa)))), (da, .inl (E.2 2, 3, .inr (.inl (lA Fb))))] sz) := by
  refine Met.ofW (cc := cX3_addMultiple) (maxL := 4) (ret := none) (by decide +kernel) rfl ?_
  intro p e s m args below meth c s₁ B hml hv
  obtain ⟨rfl, hsz, hP, hE, hD0⟩ := hv
  have hx := B.exec
  have hb := B.bytes
  have hr := B.returns
  have hts := atoms_spec (ws := wsX3_addMultiple) B.pre
  have hown : s.vm.findClass RX3 = some m.cls := findClass_of_methodNamed B.named
  have hlocks := B.notSynchronized
  have hK := hE.1
  have hNN := hE.2.1
  have hinX3 : ∀ w ∈ wsX30, w ∈ wsX3_addMultiple := fun w h => List.mem_cons_of_mem _ (List.mem_append_left _ (List.mem_append_right _ h))
  have hinX6 : ∀ w ∈ wsX60, w ∈ wsX3_addMultiple := fun w h => List.mem_cons_of_mem _ (List.mem_append_right _ h)
  subst hsz
  have hD := hD0.self (sz := s.heap.size)
  generalize hAe : va_A [(h0, .inr (3, [.ref aa, .ref ab, .ref ao, .ref ag, .ref ar, .int sh, .int rg])), (aa, .inl (E.2 2, 4, .inr (.inl (lA U)))), (ab, .inl (E.2 2, 4, .inr (.inl (lA V)))), (h1, .inr (6, [.int kd, .int (nI se), .ref ua, .ref da, .int (nI pn)])), (ua, .inl (E.2 2, 3, .inr (.inl (lA Fa)))), (da, .inl (E.2 2, 3, .inr (.inl (lA Fb))))] s.heap.size = A at hD ⊢
  have hA : ∀ q : Nat, s.heap.size ≤ q → A q := fun q h => by rw [← hAe]; exact Or.inr h
  have hS : va_S A s.heap s.heap [] := va_S.rf
  have hl := lv_entry ([.ref h0, .ref h1, .int (nI up), .int (nI dn)]) (n := 4) (Nat.le_of_ble_eq_true rfl)
  rw [lg_entry_eq]
  generalize (lg_sl ([.ref h0, .ref h1, .int (nI up), .int (nI dn)]) ++ List.replicate (4 - (lg_sl ([.ref h0, .ref h1, .int (nI up), .int (nI dn)])).length) Slot.unset).toArray = ls at hl ⊢
  have hl : lv_has ls 4 [(0, .ref h0), (1, .ref h1), (2, .int (nI up)), (3, .int (nI dn))] := hl
  have h5 : (2 : Nat) ^ 42 = 4398046511104 := by decide
  have k1 : 0 < U se * up := Nat.mul_pos hU1 hu1
  have k2 : 0 < V se * dn := Nat.mul_pos hV1 hd1
  have k3 : U se * up ≤ 8000000 * 20000 := Nat.mul_le_mul hU2 hu2
  have k4 : V se * dn ≤ 8000000 * 20000 := Nat.mul_le_mul hV2 hd2
  refine lv_aload_n hx hb dX3_addMultiple_0 rfl (lv_at hl 1 rfl) ?_
  refine lv_aload_n hx hb dX3_addMultiple_1 rfl (lv_at hl 0 rfl) ?_
  refine va_get (D := E.1) (ci := 3) (v := .ref aa) (C := RX3) (T := TX3) (N := 7) hx hb hts hinX3 hown hK hP 0 rfl rfl 0 (by decide) (hts (.fieldLink RX3 9 "WornRings$Machine" "above" "[J") (by decide +kernel)) (fun _ h9 => h9) rfl dX3_addMultiple_2 ?_
  refine lv_aload_n hx hb dX3_addMultiple_5 rfl (lv_at hl 1 rfl) ?_
  refine va_getN (D := E.1) (host := "WornRings") (ref := "WornRings$Part") (ci := 6) (v := .int (nI se)) (C := RX6) (T := TX6) (N := 5) hx hb hts hinX6 hown hK hP 3 rfl rfl 1 (by decide) (va_Nw.use rfl (hNN (.fieldLinkNest RX3 84 "WornRings$Part" "seat" "I" "WornRings") (by decide +kernel))) (fun _ h9 => h9) rfl dX3_addMultiple_6 ?_
  refine va_lald hx hb hK hP 1 2 rfl rfl (vp_in_nI (by omega) (by omega)) dX3_addMultiple_9 ?_
  rw [nI_clamp (n := se) (by omega)]
  refine W.eq (g2 := F0 m 10 ls [.long (lN (U se)), .ref h1]) rfl ?_
  refine lv_iload_n hx hb dX3_addMultiple_10 rfl (lv_at hl 2 rfl) ?_
  refine lv_i2l (v := lN up) hx hb dX3_addMultiple_11 (nI_l (by omega)) ?_
  refine lv_lmul hx hb dX3_addMultiple_12 ?_
  rw [show ((lN (U se)) * (lN up) : Int64) = lN ((U se) * up) from lN_mul (U se) up]
  refine lv_aload_n hx hb dX3_addMultiple_13 rfl (lv_at hl 0 rfl) ?_
  refine va_get (D := E.1) (ci := 3) (v := .ref ab) (C := RX3) (T := TX3) (N := 7) hx hb hts hinX3 hown hK hP 0 rfl rfl 1 (by decide) (hts (.fieldLink RX3 15 "WornRings$Machine" "below" "[J") (by decide +kernel)) (fun _ h9 => h9) rfl dX3_addMultiple_14 ?_
  refine lv_aload_n hx hb dX3_addMultiple_17 rfl (lv_at hl 1 rfl) ?_
  refine va_getN (D := E.1) (host := "WornRings") (ref := "WornRings$Part") (ci := 6) (v := .int (nI se)) (C := RX6) (T := TX6) (N := 5) hx hb hts hinX6 hown hK hP 3 rfl rfl 1 (by decide) (va_Nw.use rfl (hNN (.fieldLinkNest RX3 84 "WornRings$Part" "seat" "I" "WornRings") (by decide +kernel))) (fun _ h9 => h9) rfl dX3_addMultiple_18 ?_
  refine va_lald hx hb hK hP 2 2 rfl rfl (vp_in_nI (by omega) (by omega)) dX3_addMultiple_21 ?_
  rw [nI_clamp (n := se) (by omega)]
  refine W.eq (g2 := F0 m 22 ls [.long (lN (V se)), .long (lN ((U se) * up)), .ref h1]) rfl ?_
  refine lv_iload_n hx hb dX3_addMultiple_22 rfl (lv_at hl 3 rfl) ?_
  refine lv_i2l (v := lN dn) hx hb dX3_addMultiple_23 (nI_l (by omega)) ?_
  refine lv_lmul hx hb dX3_addMultiple_24 ?_
  rw [show ((lN (V se)) * (lN dn) : Int64) = lN ((V se) * dn) from lN_mul (V se) dn]
  refine wVv (wr := [(h0, .inr (3, [.ref aa, .ref ab, .ref ao, .ref ag, .ref ar, .int sh, .int rg])), (aa, .inl (E.2 2, 4, .inr (.inl (lA U)))), (ab, .inl (E.2 2, 4, .inr (.inl (lA V))))]) hE ⟨hx, hb, hml, hown, hts⟩ (c_X6_addTone l E s.heap.size h1 kd (nI se) ua da pn Fa Fb ((U se) * up) ((V se) * dn) (hpn) (k1) (by omega) (k2) (by omega)) (cwV 2 hts gX3_addMultiple_X6_addTone rfl rfl rfl (by decide +kernel) ⟨Nat.le_of_ble_eq_true rfl, Nat.le_of_ble_eq_true rfl⟩) hP hD hS hA [3, 4, 5] [0, 1, 2] rfl rfl (by decide) (by decide) (by decide) 0 6 rfl rfl rfl hl.1 rfl (Nat.le_of_ble_eq_true rfl) dX3_addMultiple_25 ⟨(Nat.zero_le _), (Nat.zero_le _)⟩ (fun u H locs hw hP hD hS => ?_)
  have hP : va_P E.1 vwCl [(h0, .inr (3, [.ref aa, .ref ab, .ref ao, .ref ag, .ref ar, .int sh, .int rg])), (aa, .inl (E.2 2, 4, .inr (.inl (lA U)))), (ab, .inl (E.2 2, 4, .inr (.inl (lA V)))), (h1, .inr (6, [.int kd, .int (nI se), .ref ua, .ref da, .int (nI (pn + 1))])), (ua, .inl (E.2 2, 3, .inr (.inl (lA (updN Fa pn (tA ((U se) * up) ((V se) * dn))))))), (da, .inl (E.2 2, 3, .inr (.inl (lA (updN Fb pn (tB ((U se) * up) ((V se) * dn)))))))] H := hP
  have hD : va_D A [(h0, .inr (3, [.ref aa, .ref ab, .ref ao, .ref ag, .ref ar, .int sh, .int rg])), (aa, .inl (E.2 2, 4, .inr (.inl (lA U)))), (ab, .inl (E.2 2, 4, .inr (.inl (lA V)))), (h1, .inr (6, [.int kd, .int (nI se), .ref ua, .ref da, .int (nI (pn + 1))])), (ua, .inl (E.2 2, 3, .inr (.inl (lA (updN Fa pn (tA ((U se) * up) ((V se) * dn))))))), (da, .inl (E.2 2, 3, .inr (.inl (lA (updN Fb pn (tB ((U se) * up) ((V se) * dn)))))))] := hD
  have e9 : ([(h0, .inr (3, [.ref aa, .ref ab, .ref ao, .ref ag, .ref ar, .int sh, .int rg])), (aa, .inl (E.2 2, 4, .inr (.inl (lA U)))), (ab, .inl (E.2 2, 4, .inr (.inl (lA V)))), (h1, .inr (6, [.int kd, .int (nI se), .ref ua, .ref da, .int (nI (pn + 1))])), (ua, .inl (E.2 2, 3, .inr (.inl (lA (updN Fa pn (tA (U se * up) (V se * dn))))))), (da, .inl (E.2 2, 3, .inr (.inl (lA (updN Fb pn (tB (U se * up) (V se * dn)))))))] : va_W) = [(h0, .inr (3, [.ref aa, .ref ab, .ref ao, .ref ag, .ref ar, .int sh, .int rg])), (aa, .inl (E.2 2, 4, .inr (.inl (lA U)))), (ab, .inl (E.2 2, 4, .inr (.inl (lA V)))), (h1, .inr (6, [.int kd, .int (nI se), .ref ua, .ref da, .int (nI (pn + 1))])), (ua, .inl (E.2 2, 3, .inr (.inl (lA (updN Fa pn (tA ((U se) * up) ((V se) * dn))))))), (da, .inl (E.2 2, 3, .inr (.inl (lA (updN Fb pn (tB ((U se) * up) ((V se) * dn)))))))] := by rfl
  have hP9 : va_P E.1 vwCl [(h0, .inr (3, [.ref aa, .ref ab, .ref ao, .ref ag, .ref ar, .int sh, .int rg])), (aa, .inl (E.2 2, 4, .inr (.inl (lA U)))), (ab, .inl (E.2 2, 4, .inr (.inl (lA V)))), (h1, .inr (6, [.int kd, .int (nI se), .ref ua, .ref da, .int (nI (pn + 1))])), (ua, .inl (E.2 2, 3, .inr (.inl (lA (updN Fa pn (tA (U se * up) (V se * dn))))))), (da, .inl (E.2 2, 3, .inr (.inl (lA (updN Fb pn (tB (U se * up) (V se * dn)))))))] H := by rw [e9]; exact hP.sub [0, 1, 2, 3, 4, 5] rfl
  have hD9 : va_D A [(h0, .inr (3, [.ref aa, .ref ab, .ref ao, .ref ag, .ref ar, .int sh, .int rg])), (aa, .inl (E.2 2, 4, .inr (.inl (lA U)))), (ab, .inl (E.2 2, 4, .inr (.inl (lA V)))), (h1, .inr (6, [.int kd, .int (nI se), .ref ua, .ref da, .int (nI (pn + 1))])), (ua, .inl (E.2 2, 3, .inr (.inl (lA (updN Fa pn (tA (U se * up) (V se * dn))))))), (da, .inl (E.2 2, 3, .inr (.inl (lA (updN Fb pn (tB (U se * up) (V se * dn)))))))] := by rw [e9]; exact hD.sub [0, 1, 2, 3, 4, 5] (by decide) rfl
  exact W.vret hx hb hr (fun t9 ht9 hW9 => ⟨⟨(), rfl, trivial, ⟨by rw [ht9]; exact hP9, hD9⟩⟩, hS.F ht9⟩) hS.2.2 dX3_addMultiple_28
set_option maxHeartbeats 1000000 in
set_option maxRecDepth 100000 in
theorem c_X3_ownPart (l : Launch) (E : EnvT) (sz : Nat) (h0 : Nat) (aa : Nat) (ab : Nat) (ao : Nat) (ag : Nat) (ar : Nat) (sh : Int32) (rg : Int32) (U : Nat → Nat) (V : Nat → Nat) (se : Nat) (hse : se < 4) (hU1 : 0 < U se) (hU2 : U se ≤ 8000000) (hV1 : 0 < V se) (hV2 : V se ≤ 8000000) : Met l yX3_ownPart wsX3_ownPart ({ frames := 4, cells := 3, slots := 11, locals := 102 }) (va_Pc [.ref h0, .int (nI se)] (PW E [(h0, .inr (3, [.ref aa, .ref ab, .ref ao, .ref ag, .ref ar, .int sh, .int rg])), (aa, .inl (E.2 2, 4, .inr (.inl (lA U)))), (ab, .inl (E.2 2, 4, .inr (.inl (lA V))))] sz)) (va_Qr (fun (uu : Nat × Nat) => True) (fun (uu : Nat × Nat) (ra : Nat) t => BW E (va_A [(h0, .inr (3, [.ref aa, .ref ab, .ref ao, .ref ag, .ref ar, .int sh, .int rg])), (aa, .inl (E.2 2, 4, .inr (.inl (lA U)))), (ab, .inl (E.2 2, 4, .inr (.inl (lA V))))] sz) [(h0, .inr (3, [.ref aa, .ref ab, .ref ao, .ref ag, .ref ar, .int sh, .int rg])), (aa, .inl (E.2 2, 4, .inr (.inl (lA U)))), (ab, .inl (E.2 2, 4, .inr (.inl (lA V)))), (ra, .inr (6, [.int 0, .int (nI se), .ref uu.1, .ref uu.2, .int (nI 3)])), (uu.1, .inl (E.2 2, 3, .inr (.inl (lA (t3 (tA (U se * 1) (V se * 1)) (tA (U se * 2) (V se * 1)) (tA (U se * 3) (V se * 1))))))), (uu.2, .inl (E.2 2, 3, .inr (.inl (lA (t3 (tB (U se * 1) (V se * 1)) (tB (U se * 2) (V se * 1)) (tB (U se * 3) (V se * 1)))))))] t) (va_A [(h0, .inr (3, [.ref aa, .ref ab, .ref ao, .ref ag, .ref ar, .int sh, .int rg])), (aa, .inl (E.2 2, 4, .inr (.inl (lA U)))), (ab, .inl (E.2 2, 4, .inr (.inl (lA V))))] sz)) 3 11 (va_A [(h0, .inr (3, [.ref aa, .ref ab, .ref ao, .ref ag, .ref ar, .int sh, .int rg])), (aa, .inl (E.2 2, 4, .inr (.inl (lA U)))), (ab, .inl (E.2 2, 4, .inr (.inl (lA V))))] sz) := by
  refine Met.ofW (cc := cX3_ownPart) (maxL := 3) (ret := (some (.object "WornRings$Part"))) (by decide +kernel) rfl ?_
  intro p e s m args below meth c s₁ B hml hv
  obtain ⟨rfl, hsz, hP, hE, hD0⟩ := hv
  have hx := B.exec
  have hb := B.bytes
  have hr := B.returns
  have hts := atoms_spec (ws := wsX3_ownPart) B.pre
  have hown : s.vm.findClass RX3 = some m.cls := findClass_of_methodNamed B.named
  have hlocks := B.notSynchronized
  have hK := hE.1
  have hNN := hE.2.1
  have hinX6 : ∀ w ∈ wsX60, w ∈ wsX3_ownPart := fun w h => List.mem_cons_of_mem _ (List.mem_append_left _ (List.mem_append_right _ h))
  subst hsz
  have hD := hD0.self (sz := s.heap.size)
  generalize hAe : va_A [(h0, .inr (3, [.ref aa, .ref ab, .ref ao, .ref ag, .ref ar, .int sh, .int rg])), (aa, .inl (E.2 2, 4, .inr (.inl (lA U)))), (ab, .inl (E.2 2, 4, .inr (.inl (lA V))))] s.heap.size = A at hD ⊢
  have hA : ∀ q : Nat, s.heap.size ≤ q → A q := fun q h => by rw [← hAe]; exact Or.inr h
  have hS : va_S A s.heap s.heap [] := va_S.rf
  have hl := lv_entry ([.ref h0, .int (nI se)]) (n := 3) (Nat.le_of_ble_eq_true rfl)
  rw [lg_entry_eq]
  generalize (lg_sl ([.ref h0, .int (nI se)]) ++ List.replicate (3 - (lg_sl ([.ref h0, .int (nI se)])).length) Slot.unset).toArray = ls at hl ⊢
  have hl : lv_has ls 3 [(0, .ref h0), (1, .int (nI se))] := hl
  refine va_new (ci := 6) (fs := [.int 0, .int 0, .null, .null, .int 0]) (C := RX6) (T := TX6) (N := 5) hx hb hts hinX6 tyX6 tyX6_ok hown (hts (.classLink RX3 18 RX6) (by decide +kernel)) (hts (.instantiable RX6 5) (by decide +kernel)) (hts (.initialized RX6) (by decide +kernel)) hK hP hD hS hA rfl (by decide +kernel) (Nat.le_of_ble_eq_true rfl) (Nat.le_of_ble_eq_true rfl) dX3_ownPart_0 (fun q0 H hP hD hS => ?_)
  have hP : va_P E.1 vwCl [(h0, .inr (3, [.ref aa, .ref ab, .ref ao, .ref ag, .ref ar, .int sh, .int rg])), (aa, .inl (E.2 2, 4, .inr (.inl (lA U)))), (ab, .inl (E.2 2, 4, .inr (.inl (lA V)))), (q0, .inr (6, [.int 0, .int 0, .null, .null, .int 0]))] H := hP
  have hD : va_D A [(h0, .inr (3, [.ref aa, .ref ab, .ref ao, .ref ag, .ref ar, .int sh, .int rg])), (aa, .inl (E.2 2, 4, .inr (.inl (lA U)))), (ab, .inl (E.2 2, 4, .inr (.inl (lA V)))), (q0, .inr (6, [.int 0, .int 0, .null, .null, .int 0]))] := hD
  refine W.widen (k := 1) (n := 5) (by omega) (by omega) ?_
  refine lv_dup hx hb dX3_ownPart_3 rfl ?_
  refine lv_iconst (v := 0) hx hb dX3_ownPart_4 (by decide) ?_
  refine lv_iload_n hx hb dX3_ownPart_5 rfl (lv_at hl 1 rfl) ?_
  refine wIv (wr := [(h0, .inr (3, [.ref aa, .ref ab, .ref ao, .ref ag, .ref ar, .int sh, .int rg])), (aa, .inl (E.2 2, 4, .inr (.inl (lA U)))), (ab, .inl (E.2 2, 4, .inr (.inl (lA V))))]) hE ⟨hx, hb, hml, hown, hts⟩ (c_X6_init l E H.size q0 0 (nI se) ) (cwI 2 hts gX3_ownPart_X6_init rfl rfl rfl (hts (.initialized RX6) (by decide +kernel)) (hts (.methodLink RX3 77 yX6_init) (by decide +kernel)) (hts (.instanceMethod yX6_init) (by decide +kernel)) rfl (by decide +kernel) ⟨Nat.le_of_ble_eq_true rfl, Nat.le_of_ble_eq_true rfl⟩) hP hD hS hA [3] [0, 1, 2] rfl rfl (by decide) (by decide) (by decide) rfl hl.1 rfl (Nat.le_of_ble_eq_true rfl) dX3_ownPart_6 ⟨Nat.le_of_ble_eq_true rfl, Nat.le_of_ble_eq_true rfl⟩ (fun u H locs hw hP hD hS => ?_)
  obtain ⟨qa_6, qb_6⟩ := u
  refine W.widen (k := 3) (n := 11) (by omega) (by omega) ?_
  have hP : va_P E.1 vwCl [(h0, .inr (3, [.ref aa, .ref ab, .ref ao, .ref ag, .ref ar, .int sh, .int rg])), (aa, .inl (E.2 2, 4, .inr (.inl (lA U)))), (ab, .inl (E.2 2, 4, .inr (.inl (lA V)))), (q0, .inr (6, [.int 0, .int (nI se), .ref qa_6, .ref qb_6, .int 0])), (qa_6, .inl (E.2 2, 3, .inr (.inl (lA (fun _ => 0))))), (qb_6, .inl (E.2 2, 3, .inr (.inl (lA (fun _ => 0)))))] H := hP
  have hD : va_D A [(h0, .inr (3, [.ref aa, .ref ab, .ref ao, .ref ag, .ref ar, .int sh, .int rg])), (aa, .inl (E.2 2, 4, .inr (.inl (lA U)))), (ab, .inl (E.2 2, 4, .inr (.inl (lA V)))), (q0, .inr (6, [.int 0, .int (nI se), .ref qa_6, .ref qb_6, .int 0])), (qa_6, .inl (E.2 2, 3, .inr (.inl (lA (fun _ => 0))))), (qb_6, .inl (E.2 2, 3, .inr (.inl (lA (fun _ => 0)))))] := hD
  refine lv_astore_n (lv' := [(2, .ref q0), (0, .ref h0), (1, .int (nI se))]) hx hb dX3_ownPart_9 rfl hl (by decide) rfl (fun ls hl => ?_)
  refine lv_aload_n hx hb dX3_ownPart_10 rfl (lv_at hl 1 rfl) ?_
  refine lv_aload_n hx hb dX3_ownPart_11 rfl (lv_at hl 0 rfl) ?_
  refine lv_iconst (v := 1) hx hb dX3_ownPart_12 (by decide) ?_
  refine lv_iconst (v := 1) hx hb dX3_ownPart_13 (by decide) ?_
  refine wVv (wr := []) hE ⟨hx, hb, hml, hown, hts⟩ (c_X3_addMultiple l E H.size h0 aa ab ao ag ar sh rg U V q0 0 se qa_6 qb_6 0 (fun _ => 0) (fun _ => 0) 1 1 (by omega) (hse) (hU1) (hU2) (hV1) (hV2) (by omega) (by omega) (by omega) (by omega)) (cwV 3 hts gX3_ownPart_X3_addMultiple rfl rfl rfl (by decide +kernel) ⟨Nat.le_of_ble_eq_true rfl, Nat.le_of_ble_eq_true rfl⟩) hP hD hS hA [0, 1, 2, 3, 4, 5] [] rfl rfl (by decide) (by decide) (by decide) 0 3 rfl rfl rfl hl.1 rfl (Nat.le_of_ble_eq_true rfl) dX3_ownPart_14 ⟨Nat.le_of_ble_eq_true rfl, Nat.le_of_ble_eq_true rfl⟩ (fun u H locs hw hP hD hS => ?_)
  refine W.widen (k := 3) (n := 11) (by omega) (by omega) ?_
  have hP : va_P E.1 vwCl [(h0, .inr (3, [.ref aa, .ref ab, .ref ao, .ref ag, .ref ar, .int sh, .int rg])), (aa, .inl (E.2 2, 4, .inr (.inl (lA U)))), (ab, .inl (E.2 2, 4, .inr (.inl (lA V)))), (q0, .inr (6, [.int 0, .int (nI se), .ref qa_6, .ref qb_6, .int (nI (0 + 1))])), (qa_6, .inl (E.2 2, 3, .inr (.inl (lA (updN (fun _ => 0) 0 (tA (U se * 1) (V se * 1))))))), (qb_6, .inl (E.2 2, 3, .inr (.inl (lA (updN (fun _ => 0) 0 (tB (U se * 1) (V se * 1)))))))] H := hP
  have hD : va_D A [(h0, .inr (3, [.ref aa, .ref ab, .ref ao, .ref ag, .ref ar, .int sh, .int rg])), (aa, .inl (E.2 2, 4, .inr (.inl (lA U)))), (ab, .inl (E.2 2, 4, .inr (.inl (lA V)))), (q0, .inr (6, [.int 0, .int (nI se), .ref qa_6, .ref qb_6, .int (nI (0 + 1))])), (qa_6, .inl (E.2 2, 3, .inr (.inl (lA (updN (fun _ => 0) 0 (tA (U se * 1) (V se * 1))))))), (qb_6, .inl (E.2 2, 3, .inr (.inl (lA (updN (fun _ => 0) 0 (tB (U se * 1) (V se * 1)))))))] := hD
  refine lv_aload_n hx hb dX3_ownPart_17 rfl (lv_at hl 1 rfl) ?_
  refine lv_aload_n hx hb dX3_ownPart_18 rfl (lv_at hl 0 rfl) ?_
  refine lv_iconst (v := 2) hx hb dX3_ownPart_19 (by decide) ?_
  refine lv_iconst (v := 1) hx hb dX3_ownPart_20 (by decide) ?_
  refine wVv (wr := []) hE ⟨hx, hb, hml, hown, hts⟩ (c_X3_addMultiple l E H.size h0 aa ab ao ag ar sh rg U V q0 0 se qa_6 qb_6 (0 + 1) (updN (fun _ => 0) 0 (tA (U se * 1) (V se * 1))) (updN (fun _ => 0) 0 (tB (U se * 1) (V se * 1))) 2 1 (by omega) (hse) (hU1) (hU2) (hV1) (hV2) (by omega) (by omega) (by omega) (by omega)) (cwV 3 hts gX3_ownPart_X3_addMultiple rfl rfl rfl (by decide +kernel) ⟨Nat.le_of_ble_eq_true rfl, Nat.le_of_ble_eq_true rfl⟩) hP hD hS hA [0, 1, 2, 3, 4, 5] [] rfl rfl (by decide) (by decide) (by decide) 0 3 rfl rfl rfl hl.1 rfl (Nat.le_of_ble_eq_true rfl) dX3_ownPart_21 ⟨Nat.le_of_ble_eq_true rfl, Nat.le_of_ble_eq_true rfl⟩ (fun u H locs hw hP hD hS => ?_)
  refine W.widen (k := 3) (n := 11) (by omega) (by omega) ?_
  have hP : va_P E.1 vwCl [(h0, .inr (3, [.ref aa, .ref ab, .ref ao, .ref ag, .ref ar, .int sh, .int rg])), (aa, .inl (E.2 2, 4, .inr (.inl (lA U)))), (ab, .inl (E.2 2, 4, .inr (.inl (lA V)))), (q0, .inr (6, [.int 0, .int (nI se), .ref qa_6, .ref qb_6, .int (nI ((0 + 1) + 1))])), (qa_6, .inl (E.2 2, 3, .inr (.inl (lA (updN (updN (fun _ => 0) 0 (tA (U se * 1) (V se * 1))) (0 + 1) (tA (U se * 2) (V se * 1))))))), (qb_6, .inl (E.2 2, 3, .inr (.inl (lA (updN (updN (fun _ => 0) 0 (tB (U se * 1) (V se * 1))) (0 + 1) (tB (U se * 2) (V se * 1)))))))] H := hP
  have hD : va_D A [(h0, .inr (3, [.ref aa, .ref ab, .ref ao, .ref ag, .ref ar, .int sh, .int rg])), (aa, .inl (E.2 2, 4, .inr (.inl (lA U)))), (ab, .inl (E.2 2, 4, .inr (.inl (lA V)))), (q0, .inr (6, [.int 0, .int (nI se), .ref qa_6, .ref qb_6, .int (nI ((0 + 1) + 1))])), (qa_6, .inl (E.2 2, 3, .inr (.inl (lA (updN (updN (fun _ => 0) 0 (tA (U se * 1) (V se * 1))) (0 + 1) (tA (U se * 2) (V se * 1))))))), (qb_6, .inl (E.2 2, 3, .inr (.inl (lA (updN (updN (fun _ => 0) 0 (tB (U se * 1) (V se * 1))) (0 + 1) (tB (U se * 2) (V se * 1)))))))] := hD
  refine lv_aload_n hx hb dX3_ownPart_24 rfl (lv_at hl 1 rfl) ?_
  refine lv_aload_n hx hb dX3_ownPart_25 rfl (lv_at hl 0 rfl) ?_
  refine lv_iconst (v := 3) hx hb dX3_ownPart_26 (by decide) ?_
  refine lv_iconst (v := 1) hx hb dX3_ownPart_27 (by decide) ?_
  refine wVv (wr := []) hE ⟨hx, hb, hml, hown, hts⟩ (c_X3_addMultiple l E H.size h0 aa ab ao ag ar sh rg U V q0 0 se qa_6 qb_6 ((0 + 1) + 1) (updN (updN (fun _ => 0) 0 (tA (U se * 1) (V se * 1))) (0 + 1) (tA (U se * 2) (V se * 1))) (updN (updN (fun _ => 0) 0 (tB (U se * 1) (V se * 1))) (0 + 1) (tB (U se * 2) (V se * 1))) 3 1 (by omega) (hse) (hU1) (hU2) (hV1) (hV2) (by omega) (by omega) (by omega) (by omega)) (cwV 3 hts gX3_ownPart_X3_addMultiple rfl rfl rfl (by decide +kernel) ⟨Nat.le_of_ble_eq_true rfl, Nat.le_of_ble_eq_true rfl⟩) hP hD hS hA [0, 1, 2, 3, 4, 5] [] rfl rfl (by decide) (by decide) (by decide) 0 3 rfl rfl rfl hl.1 rfl (Nat.le_of_ble_eq_true rfl) dX3_ownPart_28 ⟨Nat.le_of_ble_eq_true rfl, Nat.le_of_ble_eq_true rfl⟩ (fun u H locs hw hP hD hS => ?_)
  refine W.widen (k := 3) (n := 11) (by omega) (by omega) ?_
  have hP : va_P E.1 vwCl [(h0, .inr (3, [.ref aa, .ref ab, .ref ao, .ref ag, .ref ar, .int sh, .int rg])), (aa, .inl (E.2 2, 4, .inr (.inl (lA U)))), (ab, .inl (E.2 2, 4, .inr (.inl (lA V)))), (q0, .inr (6, [.int 0, .int (nI se), .ref qa_6, .ref qb_6, .int (nI (((0 + 1) + 1) + 1))])), (qa_6, .inl (E.2 2, 3, .inr (.inl (lA (updN (updN (updN (fun _ => 0) 0 (tA (U se * 1) (V se * 1))) (0 + 1) (tA (U se * 2) (V se * 1))) ((0 + 1) + 1) (tA (U se * 3) (V se * 1))))))), (qb_6, .inl (E.2 2, 3, .inr (.inl (lA (updN (updN (updN (fun _ => 0) 0 (tB (U se * 1) (V se * 1))) (0 + 1) (tB (U se * 2) (V se * 1))) ((0 + 1) + 1) (tB (U se * 3) (V se * 1)))))))] H := hP
  have hD : va_D A [(h0, .inr (3, [.ref aa, .ref ab, .ref ao, .ref ag, .ref ar, .int sh, .int rg])), (aa, .inl (E.2 2, 4, .inr (.inl (lA U)))), (ab, .inl (E.2 2, 4, .inr (.inl (lA V)))), (q0, .inr (6, [.int 0, .int (nI se), .ref qa_6, .ref qb_6, .int (nI (((0 + 1) + 1) + 1))])), (qa_6, .inl (E.2 2, 3, .inr (.inl (lA (updN (updN (updN (fun _ => 0) 0 (tA (U se * 1) (V se * 1))) (0 + 1) (tA (U se * 2) (V se * 1))) ((0 + 1) + 1) (tA (U se * 3) (V se * 1))))))), (qb_6, .inl (E.2 2, 3, .inr (.inl (lA (updN (updN (updN (fun _ => 0) 0 (tB (U se * 1) (V se * 1))) (0 + 1) (tB (U se * 2) (V se * 1))) ((0 + 1) + 1) (tB (U se * 3) (V se * 1)))))))] := hD
  refine lv_aload_n hx hb dX3_ownPart_31 rfl (lv_at hl 0 rfl) ?_
  have e9 : ([(h0, .inr (3, [.ref aa, .ref ab, .ref ao, .ref ag, .ref ar, .int sh, .int rg])), (aa, .inl (E.2 2, 4, .inr (.inl (lA U)))), (ab, .inl (E.2 2, 4, .inr (.inl (lA V)))), (q0, .inr (6, [.int 0, .int (nI se), .ref qa_6, .ref qb_6, .int (nI 3)])), (qa_6, .inl (E.2 2, 3, .inr (.inl (lA (t3 (tA (U se * 1) (V se * 1)) (tA (U se * 2) (V se * 1)) (tA (U se * 3) (V se * 1))))))), (qb_6, .inl (E.2 2, 3, .inr (.inl (lA (t3 (tB (U se * 1) (V se * 1)) (tB (U se * 2) (V se * 1)) (tB (U se * 3) (V se * 1)))))))] : va_W) = [(h0, .inr (3, [.ref aa, .ref ab, .ref ao, .ref ag, .ref ar, .int sh, .int rg])), (aa, .inl (E.2 2, 4, .inr (.inl (lA U)))), (ab, .inl (E.2 2, 4, .inr (.inl (lA V)))), (q0, .inr (6, [.int 0, .int (nI se), .ref qa_6, .ref qb_6, .int (nI (((0 + 1) + 1) + 1))])), (qa_6, .inl (E.2 2, 3, .inr (.inl (lA (updN (updN (updN (fun _ => 0) 0 (tA (U se * 1) (V se * 1))) (0 + 1) (tA (U se * 2) (V se * 1))) ((0 + 1) + 1) (tA (U se * 3) (V se * 1))))))), (qb_6, .inl (E.2 2, 3, .inr (.inl (lA (updN (updN (updN (fun _ => 0) 0 (tB (U se * 1) (V se * 1))) (0 + 1) (tB (U se * 2) (V se * 1))) ((0 + 1) + 1) (tB (U se * 3) (V se * 1)))))))] := by rfl
  have hP9 : va_P E.1 vwCl [(h0, .inr (3, [.ref aa, .ref ab, .ref ao, .ref ag, .ref ar, .int sh, .int rg])), (aa, .inl (E.2 2, 4, .inr (.inl (lA U)))), (ab, .inl (E.2 2, 4, .inr (.inl (lA V)))), (q0, .inr (6, [.int 0, .int (nI se), .ref qa_6, .ref qb_6, .int (nI 3)])), (qa_6, .inl (E.2 2, 3, .inr (.inl (lA (t3 (tA (U se * 1) (V se * 1)) (tA (U se * 2) (V se * 1)) (tA (U se * 3) (V se * 1))))))), (qb_6, .inl (E.2 2, 3, .inr (.inl (lA (t3 (tB (U se * 1) (V se * 1)) (tB (U se * 2) (V se * 1)) (tB (U se * 3) (V se * 1)))))))] H := by rw [e9]; exact hP.sub [0, 1, 2, 3, 4, 5] rfl
  have hD9 : va_D A [(h0, .inr (3, [.ref aa, .ref ab, .ref ao, .ref ag, .ref ar, .int sh, .int rg])), (aa, .inl (E.2 2, 4, .inr (.inl (lA U)))), (ab, .inl (E.2 2, 4, .inr (.inl (lA V)))), (q0, .inr (6, [.int 0, .int (nI se), .ref qa_6, .ref qb_6, .int (nI 3)])), (qa_6, .inl (E.2 2, 3, .inr (.inl (lA (t3 (tA (U se * 1) (V se * 1)) (tA (U se * 2) (V se * 1)) (tA (U se * 3) (V se * 1))))))), (qb_6, .inl (E.2 2, 3, .inr (.inl (lA (t3 (tB (U se * 1) (V se * 1)) (tB (U se * 2) (V se * 1)) (tB (U se * 3) (V se * 1)))))))] := by rw [e9]; exact hD.sub [0, 1, 2, 3, 4, 5] (by decide) rfl
  exact W.aret (v := .ref q0) hx hb hr (Or.inl ⟨_, rfl⟩) (Or.inr ⟨_, rfl⟩) (fun t9 ht9 hW9 => ⟨⟨(qa_6, qb_6), q0, rfl, trivial, ⟨by rw [ht9]; exact hP9, hD9⟩⟩, hS.F ht9⟩) hS.2.2 dX3_ownPart_32
set_option maxHeartbeats 1000000 in
set_option maxRecDepth 100000 in
theorem c_X3_gearPart (l : Launch) (E : EnvT) (sz : Nat) (h0 : Nat) (aa : Nat) (ab : Nat) (ao : Nat) (ag : Nat) (ar : Nat) (sh : Int32) (rg : Int32) (U : Nat → Nat) (V : Nat → Nat) (se : Nat) (te : Nat) (hse : se < 4) (hU1 : 0 < U se) (hU2 : U se ≤ 8000000) (hV1 : 0 < V se) (hV2 : V se ≤ 8000000) (ht1 : 5 ≤ te) (ht2 : te ≤ 200) : Met l yX3_gearPart wsX3_gearPart ({ frames := 4, cells := 3, slots := 11, locals := 102 }) (va_Pc [.ref h0, .int (nI se), .int (nI te)] (PW E [(h0, .inr (3, [.ref aa, .ref ab, .ref ao, .ref ag, .ref ar, .int sh, .int rg])), (aa, .inl (E.2 2, 4, .inr (.inl (lA U)))), (ab, .inl (E.2 2, 4, .inr (.inl (lA V))))] sz)) (va_Qr (fun (uu : Nat × Nat) => True) (fun (uu : Nat × Nat) (ra : Nat) t => BW E (va_A [(h0, .inr (3, [.ref aa, .ref ab, .ref ao, .ref ag, .ref ar, .int sh, .int rg])), (aa, .inl (E.2 2, 4, .inr (.inl (lA U)))), (ab, .inl (E.2 2, 4, .inr (.inl (lA V))))] sz) [(h0, .inr (3, [.ref aa, .ref ab, .ref ao, .ref ag, .ref ar, .int sh, .int rg])), (aa, .inl (E.2 2, 4, .inr (.inl (lA U)))), (ab, .inl (E.2 2, 4, .inr (.inl (lA V)))), (ra, .inr (6, [.int 1, .int (nI se), .ref uu.1, .ref uu.2, .int (nI 2)])), (uu.1, .inl (E.2 2, 3, .inr (.inl (lA (t2 (tA (U se * te) (V se * 1)) (tA (U se * (2 * te)) (V se * 1))))))), (uu.2, .inl (E.2 2, 3, .inr (.inl (lA (t2 (tB (U se * te) (V se * 1)) (tB (U se * (2 * te)) (V se * 1)))))))] t) (va_A [(h0, .inr (3, [.ref aa, .ref ab, .ref ao, .ref ag, .ref ar, .int sh, .int rg])), (aa, .inl (E.2 2, 4, .inr (.inl (lA U)))), (ab, .inl (E.2 2, 4, .inr (.inl (lA V))))] sz)) 3 11 (va_A [(h0, .inr (3, [.ref aa, .ref ab, .ref ao, .ref ag, .ref ar, .int sh, .int rg])), (aa, .inl (E.2 2, 4, .inr (.inl (lA U)))), (ab, .inl (E.2 2, 4, .inr (.inl (lA V))))] sz) := by
  refine Met.ofW (cc := cX3_gearPart) (maxL := 4) (ret := (some (.object "WornRings$Part"))) (by decide +kernel) rfl ?_
  intro p e s m args below meth c s₁ B hml hv
  obtain ⟨rfl, hsz, hP, hE, hD0⟩ := hv
  have hx := B.exec
  have hb := B.bytes
  have hr := B.returns
  have hts := atoms_spec (ws := wsX3_gearPart) B.pre
  have hown : s.vm.findClass RX3 = some m.cls := findClass_of_methodNamed B.named
  have hlocks := B.notSynchronized
  have hK := hE.1
  have hNN := hE.2.1
  have hinX6 : ∀ w ∈ wsX60, w ∈ wsX3_gearPart := fun w h => List.mem_cons_of_mem _ (List.mem_append_left _ (List.mem_append_right _ h))
  subst hsz
  have hD := hD0.self (sz := s.heap.size)
  generalize hAe : va_A [(h0, .inr (3, [.ref aa, .ref ab, .ref ao, .ref ag, .ref ar, .int sh, .int rg])), (aa, .inl (E.2 2, 4, .inr (.inl (lA U)))), (ab, .inl (E.2 2, 4, .inr (.inl (lA V))))] s.heap.size = A at hD ⊢
  have hA : ∀ q : Nat, s.heap.size ≤ q → A q := fun q h => by rw [← hAe]; exact Or.inr h
  have hS : va_S A s.heap s.heap [] := va_S.rf
  have hl := lv_entry ([.ref h0, .int (nI se), .int (nI te)]) (n := 4) (Nat.le_of_ble_eq_true rfl)
  rw [lg_entry_eq]
  generalize (lg_sl ([.ref h0, .int (nI se), .int (nI te)]) ++ List.replicate (4 - (lg_sl ([.ref h0, .int (nI se), .int (nI te)])).length) Slot.unset).toArray = ls at hl ⊢
  have hl : lv_has ls 4 [(0, .ref h0), (1, .int (nI se)), (2, .int (nI te))] := hl
  refine va_new (ci := 6) (fs := [.int 0, .int 0, .null, .null, .int 0]) (C := RX6) (T := TX6) (N := 5) hx hb hts hinX6 tyX6 tyX6_ok hown (hts (.classLink RX3 18 RX6) (by decide +kernel)) (hts (.instantiable RX6 5) (by decide +kernel)) (hts (.initialized RX6) (by decide +kernel)) hK hP hD hS hA rfl (by decide +kernel) (Nat.le_of_ble_eq_true rfl) (Nat.le_of_ble_eq_true rfl) dX3_gearPart_0 (fun q0 H hP hD hS => ?_)
  have hP : va_P E.1 vwCl [(h0, .inr (3, [.ref aa, .ref ab, .ref ao, .ref ag, .ref ar, .int sh, .int rg])), (aa, .inl (E.2 2, 4, .inr (.inl (lA U)))), (ab, .inl (E.2 2, 4, .inr (.inl (lA V)))), (q0, .inr (6, [.int 0, .int 0, .null, .null, .int 0]))] H := hP
  have hD : va_D A [(h0, .inr (3, [.ref aa, .ref ab, .ref ao, .ref ag, .ref ar, .int sh, .int rg])), (aa, .inl (E.2 2, 4, .inr (.inl (lA U)))), (ab, .inl (E.2 2, 4, .inr (.inl (lA V)))), (q0, .inr (6, [.int 0, .int 0, .null, .null, .int 0]))] := hD
  refine W.widen (k := 1) (n := 5) (by omega) (by omega) ?_
  refine lv_dup hx hb dX3_gearPart_3 rfl ?_
  refine lv_iconst (v := 1) hx hb dX3_gearPart_4 (by decide) ?_
  refine lv_iload_n hx hb dX3_gearPart_5 rfl (lv_at hl 1 rfl) ?_
  refine wIv (wr := [(h0, .inr (3, [.ref aa, .ref ab, .ref ao, .ref ag, .ref ar, .int sh, .int rg])), (aa, .inl (E.2 2, 4, .inr (.inl (lA U)))), (ab, .inl (E.2 2, 4, .inr (.inl (lA V))))]) hE ⟨hx, hb, hml, hown, hts⟩ (c_X6_init l E H.size q0 1 (nI se) ) (cwI 2 hts gX3_gearPart_X6_init rfl rfl rfl (hts (.initialized RX6) (by decide +kernel)) (hts (.methodLink RX3 77 yX6_init) (by decide +kernel)) (hts (.instanceMethod yX6_init) (by decide +kernel)) rfl (by decide +kernel) ⟨Nat.le_of_ble_eq_true rfl, Nat.le_of_ble_eq_true rfl⟩) hP hD hS hA [3] [0, 1, 2] rfl rfl (by decide) (by decide) (by decide) rfl hl.1 rfl (Nat.le_of_ble_eq_true rfl) dX3_gearPart_6 ⟨Nat.le_of_ble_eq_true rfl, Nat.le_of_ble_eq_true rfl⟩ (fun u H locs hw hP hD hS => ?_)
  obtain ⟨qa_6, qb_6⟩ := u
  refine W.widen (k := 3) (n := 11) (by omega) (by omega) ?_
  have hP : va_P E.1 vwCl [(h0, .inr (3, [.ref aa, .ref ab, .ref ao, .ref ag, .ref ar, .int sh, .int rg])), (aa, .inl (E.2 2, 4, .inr (.inl (lA U)))), (ab, .inl (E.2 2, 4, .inr (.inl (lA V)))), (q0, .inr (6, [.int 1, .int (nI se), .ref qa_6, .ref qb_6, .int 0])), (qa_6, .inl (E.2 2, 3, .inr (.inl (lA (fun _ => 0))))), (qb_6, .inl (E.2 2, 3, .inr (.inl (lA (fun _ => 0)))))] H := hP
  have hD : va_D A [(h0, .inr (3, [.ref aa, .ref ab, .ref ao, .ref ag, .ref ar, .int sh, .int rg])), (aa, .inl (E.2 2, 4, .inr (.inl (lA U)))), (ab, .inl (E.2 2, 4, .inr (.inl (lA V)))), (q0, .inr (6, [.int 1, .int (nI se), .ref qa_6, .ref qb_6, .int 0])), (qa_6, .inl (E.2 2, 3, .inr (.inl (lA (fun _ => 0))))), (qb_6, .inl (E.2 2, 3, .inr (.inl (lA (fun _ => 0)))))] := hD
  refine lv_astore_n (lv' := [(3, .ref q0), (0, .ref h0), (1, .int (nI se)), (2, .int (nI te))]) hx hb dX3_gearPart_9 rfl hl (by decide) rfl (fun ls hl => ?_)
  refine lv_aload_n hx hb dX3_gearPart_10 rfl (lv_at hl 1 rfl) ?_
  refine lv_aload_n hx hb dX3_gearPart_11 rfl (lv_at hl 0 rfl) ?_
  refine lv_iload_n hx hb dX3_gearPart_12 rfl (lv_at hl 3 rfl) ?_
  refine lv_iconst (v := 1) hx hb dX3_gearPart_13 (by decide) ?_
  refine wVv (wr := []) hE ⟨hx, hb, hml, hown, hts⟩ (c_X3_addMultiple l E H.size h0 aa ab ao ag ar sh rg U V q0 1 se qa_6 qb_6 0 (fun _ => 0) (fun _ => 0) te 1 (by omega) (hse) (hU1) (hU2) (hV1) (hV2) (by omega) (by omega) (by omega) (by omega)) (cwV 3 hts gX3_gearPart_X3_addMultiple rfl rfl rfl (by decide +kernel) ⟨Nat.le_of_ble_eq_true rfl, Nat.le_of_ble_eq_true rfl⟩) hP hD hS hA [0, 1, 2, 3, 4, 5] [] rfl rfl (by decide) (by decide) (by decide) 0 3 rfl rfl rfl hl.1 rfl (Nat.le_of_ble_eq_true rfl) dX3_gearPart_14 ⟨Nat.le_of_ble_eq_true rfl, Nat.le_of_ble_eq_true rfl⟩ (fun u H locs hw hP hD hS => ?_)
  refine W.widen (k := 3) (n := 11) (by omega) (by omega) ?_
  have hP : va_P E.1 vwCl [(h0, .inr (3, [.ref aa, .ref ab, .ref ao, .ref ag, .ref ar, .int sh, .int rg])), (aa, .inl (E.2 2, 4, .inr (.inl (lA U)))), (ab, .inl (E.2 2, 4, .inr (.inl (lA V)))), (q0, .inr (6, [.int 1, .int (nI se), .ref qa_6, .ref qb_6, .int (nI (0 + 1))])), (qa_6, .inl (E.2 2, 3, .inr (.inl (lA (updN (fun _ => 0) 0 (tA (U se * te) (V se * 1))))))), (qb_6, .inl (E.2 2, 3, .inr (.inl (lA (updN (fun _ => 0) 0 (tB (U se * te) (V se * 1)))))))] H := hP
  have hD : va_D A [(h0, .inr (3, [.ref aa, .ref ab, .ref ao, .ref ag, .ref ar, .int sh, .int rg])), (aa, .inl (E.2 2, 4, .inr (.inl (lA U)))), (ab, .inl (E.2 2, 4, .inr (.inl (lA V)))), (q0, .inr (6, [.int 1, .int (nI se), .ref qa_6, .ref qb_6, .int (nI (0 + 1))])), (qa_6, .inl (E.2 2, 3, .inr (.inl (lA (updN (fun _ => 0) 0 (tA (U se * te) (V se * 1))))))), (qb_6, .inl (E.2 2, 3, .inr (.inl (lA (updN (fun _ => 0) 0 (tB (U se * te) (V se * 1)))))))] := hD
  refine lv_aload_n hx hb dX3_gearPart_17 rfl (lv_at hl 1 rfl) ?_
  refine lv_aload_n hx hb dX3_gearPart_18 rfl (lv_at hl 0 rfl) ?_
  refine lv_iconst (v := 2) hx hb dX3_gearPart_19 (by decide) ?_
  refine lv_iload_n hx hb dX3_gearPart_20 rfl (lv_at hl 3 rfl) ?_
  refine lv_imul hx hb dX3_gearPart_21 ?_
  rw [show ((2 : Int32) * (nI te) : Int32) = nI (2 * te) from pk_mul 2 te]
  refine lv_iconst (v := 1) hx hb dX3_gearPart_22 (by decide) ?_
  refine wVv (wr := []) hE ⟨hx, hb, hml, hown, hts⟩ (c_X3_addMultiple l E H.size h0 aa ab ao ag ar sh rg U V q0 1 se qa_6 qb_6 (0 + 1) (updN (fun _ => 0) 0 (tA (U se * te) (V se * 1))) (updN (fun _ => 0) 0 (tB (U se * te) (V se * 1))) (2 * te) 1 (by omega) (hse) (hU1) (hU2) (hV1) (hV2) (by omega) (by omega) (by omega) (by omega)) (cwV 3 hts gX3_gearPart_X3_addMultiple rfl rfl rfl (by decide +kernel) ⟨Nat.le_of_ble_eq_true rfl, Nat.le_of_ble_eq_true rfl⟩) hP hD hS hA [0, 1, 2, 3, 4, 5] [] rfl rfl (by decide) (by decide) (by decide) 0 3 rfl rfl rfl hl.1 rfl (Nat.le_of_ble_eq_true rfl) dX3_gearPart_23 ⟨Nat.le_of_ble_eq_true rfl, Nat.le_of_ble_eq_true rfl⟩ (fun u H locs hw hP hD hS => ?_)
  refine W.widen (k := 3) (n := 11) (by omega) (by omega) ?_
  have hP : va_P E.1 vwCl [(h0, .inr (3, [.ref aa, .ref ab, .ref ao, .ref ag, .ref ar, .int sh, .int rg])), (aa, .inl (E.2 2, 4, .inr (.inl (lA U)))), (ab, .inl (E.2 2, 4, .inr (.inl (lA V)))), (q0, .inr (6, [.int 1, .int (nI se), .ref qa_6, .ref qb_6, .int (nI ((0 + 1) + 1))])), (qa_6, .inl (E.2 2, 3, .inr (.inl (lA (updN (updN (fun _ => 0) 0 (tA (U se * te) (V se * 1))) (0 + 1) (tA (U se * (2 * te)) (V se * 1))))))), (qb_6, .inl (E.2 2, 3, .inr (.inl (lA (updN (updN (fun _ => 0) 0 (tB (U se * te) (V se * 1))) (0 + 1) (tB (U se * (2 * te)) (V se * 1)))))))] H := hP
  have hD : va_D A [(h0, .inr (3, [.ref aa, .ref ab, .ref ao, .ref ag, .ref ar, .int sh, .int rg])), (aa, .inl (E.2 2, 4, .inr (.inl (lA U)))), (ab, .inl (E.2 2, 4, .inr (.inl (lA V)))), (q0, .inr (6, [.int 1, .int (nI se), .ref qa_6, .ref qb_6, .int (nI ((0 + 1) + 1))])), (qa_6, .inl (E.2 2, 3, .inr (.inl (lA (updN (updN (fun _ => 0) 0 (tA (U se * te) (V se * 1))) (0 + 1) (tA (U se * (2 * te)) (V se * 1))))))), (qb_6, .inl (E.2 2, 3, .inr (.inl (lA (updN (updN (fun _ => 0) 0 (tB (U se * te) (V se * 1))) (0 + 1) (tB (U se * (2 * te)) (V se * 1)))))))] := hD
  refine lv_aload_n hx hb dX3_gearPart_26 rfl (lv_at hl 0 rfl) ?_
  have e9 : ([(h0, .inr (3, [.ref aa, .ref ab, .ref ao, .ref ag, .ref ar, .int sh, .int rg])), (aa, .inl (E.2 2, 4, .inr (.inl (lA U)))), (ab, .inl (E.2 2, 4, .inr (.inl (lA V)))), (q0, .inr (6, [.int 1, .int (nI se), .ref qa_6, .ref qb_6, .int (nI 2)])), (qa_6, .inl (E.2 2, 3, .inr (.inl (lA (t2 (tA (U se * te) (V se * 1)) (tA (U se * (2 * te)) (V se * 1))))))), (qb_6, .inl (E.2 2, 3, .inr (.inl (lA (t2 (tB (U se * te) (V se * 1)) (tB (U se * (2 * te)) (V se * 1)))))))] : va_W) = [(h0, .inr (3, [.ref aa, .ref ab, .ref ao, .ref ag, .ref ar, .int sh, .int rg])), (aa, .inl (E.2 2, 4, .inr (.inl (lA U)))), (ab, .inl (E.2 2, 4, .inr (.inl (lA V)))), (q0, .inr (6, [.int 1, .int (nI se), .ref qa_6, .ref qb_6, .int (nI ((0 + 1) + 1))])), (qa_6, .inl (E.2 2, 3, .inr (.inl (lA (updN (updN (fun _ => 0) 0 (tA (U se * te) (V se * 1))) (0 + 1) (tA (U se * (2 * te)) (V se * 1))))))), (qb_6, .inl (E.2 2, 3, .inr (.inl (lA (updN (updN (fun _ => 0) 0 (tB (U se * te) (V se * 1))) (0 + 1) (tB (U se * (2 * te)) (V se * 1)))))))] := by rfl
  have hP9 : va_P E.1 vwCl [(h0, .inr (3, [.ref aa, .ref ab, .ref ao, .ref ag, .ref ar, .int sh, .int rg])), (aa, .inl (E.2 2, 4, .inr (.inl (lA U)))), (ab, .inl (E.2 2, 4, .inr (.inl (lA V)))), (q0, .inr (6, [.int 1, .int (nI se), .ref qa_6, .ref qb_6, .int (nI 2)])), (qa_6, .inl (E.2 2, 3, .inr (.inl (lA (t2 (tA (U se * te) (V se * 1)) (tA (U se * (2 * te)) (V se * 1))))))), (qb_6, .inl (E.2 2, 3, .inr (.inl (lA (t2 (tB (U se * te) (V se * 1)) (tB (U se * (2 * te)) (V se * 1)))))))] H := by rw [e9]; exact hP.sub [0, 1, 2, 3, 4, 5] rfl
  have hD9 : va_D A [(h0, .inr (3, [.ref aa, .ref ab, .ref ao, .ref ag, .ref ar, .int sh, .int rg])), (aa, .inl (E.2 2, 4, .inr (.inl (lA U)))), (ab, .inl (E.2 2, 4, .inr (.inl (lA V)))), (q0, .inr (6, [.int 1, .int (nI se), .ref qa_6, .ref qb_6, .int (nI 2)])), (qa_6, .inl (E.2 2, 3, .inr (.inl (lA (t2 (tA (U se * te) (V se * 1)) (tA (U se * (2 * te)) (V se * 1))))))), (qb_6, .inl (E.2 2, 3, .inr (.inl (lA (t2 (tB (U se * te) (V se * 1)) (tB (U se * (2 * te)) (V se * 1)))))))] := by rw [e9]; exact hD.sub [0, 1, 2, 3, 4, 5] (by decide) rfl
  exact W.aret (v := .ref q0) hx hb hr (Or.inl ⟨_, rfl⟩) (Or.inr ⟨_, rfl⟩) (fun t9 ht9 hW9 => ⟨⟨(qa_6, qb_6), q0, rfl, trivial, ⟨by rw [ht9]; exact hP9, hD9⟩⟩, hS.F ht9⟩) hS.2.2 dX3_gearPart_27
set_option maxHeartbeats 1000000 in
set_option maxRecDepth 100000 in
theorem c_X3_outerPart (l : Launch) (E : EnvT) (sz : Nat) (h0 : Nat) (aa : Nat) (ab : Nat) (ao : Nat) (ag : Nat) (ar : Nat) (sh : Int32) (rg : Int32) (U : Nat → Nat) (V : Nat → Nat) (se : Nat) (bl : Nat) (pp : Nat) (qq : Nat) (hse : se < 4) (hU1 : 0 < U se) (hU2 : U se ≤ 8000000) (hV1 : 0 < V se) (hV2 : V se ≤ 8000000) (hb1 : 3 ≤ bl) (hb2 : bl ≤ 30) (hp1 : 1 ≤ pp) (hpq : pp < qq) (hq2 : qq ≤ 100) : Met l yX3_outerPart wsX3_outerPart ({ frames := 4, cells := 3, slots := 11, locals := 102 }) (va_Pc [.ref h0, .int (nI se), .int (nI bl), .int (nI pp), .int (nI qq)] (PW E [(h0, .inr (3, [.ref aa, .ref ab, .ref ao, .ref ag, .ref ar, .int sh, .int rg])), (aa, .inl (E.2 2, 4, .inr (.inl (lA U)))), (ab, .inl (E.2 2, 4, .inr (.inl (lA V))))] sz)) (va_Qr (fun (uu : Nat × Nat) => True) (fun (uu : Nat × Nat) (ra : Nat) t => BW E (va_A [(h0, .inr (3, [.ref aa, .ref ab, .ref ao, .ref ag, .ref ar, .int sh, .int rg])), (aa, .inl (E.2 2, 4, .inr (.inl (lA U)))), (ab, .inl (E.2 2, 4, .inr (.inl (lA V))))] sz) [(h0, .inr (3, [.ref aa, .ref ab, .ref ao, .ref ag, .ref ar, .int sh, .int rg])), (aa, .inl (E.2 2, 4, .inr (.inl (lA U)))), (ab, .inl (E.2 2, 4, .inr (.inl (lA V)))), (ra, .inr (6, [.int 2, .int (nI se), .ref uu.1, .ref uu.2, .int (nI 2)])), (uu.1, .inl (E.2 2, 3, .inr (.inl (lA (t2 (tA (U se * (bl * (qq - pp))) (V se * (2 * qq))) (tA (U se * (2 * bl * (qq - pp))) (V se * (2 * qq)))))))), (uu.2, .inl (E.2 2, 3, .inr (.inl (lA (t2 (tB (U se * (bl * (qq - pp))) (V se * (2 * qq))) (tB (U se * (2 * bl * (qq - pp))) (V se * (2 * qq))))))))] t) (va_A [(h0, .inr (3, [.ref aa, .ref ab, .ref ao, .ref ag, .ref ar, .int sh, .int rg])), (aa, .inl (E.2 2, 4, .inr (.inl (lA U)))), (ab, .inl (E.2 2, 4, .inr (.inl (lA V))))] sz)) 3 11 (va_A [(h0, .inr (3, [.ref aa, .ref ab, .ref ao, .ref ag, .ref ar, .int sh, .int rg])), (aa, .inl (E.2 2, 4, .inr (.inl (lA U)))), (ab, .inl (E.2 2, 4, .inr (.inl (lA V))))] sz) := by
  refine Met.ofW (cc := cX3_outerPart) (maxL := 6) (ret := (some (.object "WornRings$Part"))) (by decide +kernel) rfl ?_
  intro p e s m args below meth c s₁ B hml hv
  obtain ⟨rfl, hsz, hP, hE, hD0⟩ := hv
  have hx := B.exec
  have hb := B.bytes
  have hr := B.returns
  have hts := atoms_spec (ws := wsX3_outerPart) B.pre
  have hown : s.vm.findClass RX3 = some m.cls := findClass_of_methodNamed B.named
  have hlocks := B.notSynchronized
  have hK := hE.1
  have hNN := hE.2.1
  have hinX6 : ∀ w ∈ wsX60, w ∈ wsX3_outerPart := fun w h => List.mem_cons_of_mem _ (List.mem_append_left _ (List.mem_append_right _ h))
  subst hsz
  have hD := hD0.self (sz := s.heap.size)
  generalize hAe : va_A [(h0, .inr (3, [.ref aa, .ref ab, .ref ao, .ref ag, .ref ar, .int sh, .int rg])), (aa, .inl (E.2 2, 4, .inr (.inl (lA U)))), (ab, .inl (E.2 2, 4, .inr (.inl (lA V))))] s.heap.size = A at hD ⊢
  have hA : ∀ q : Nat, s.heap.size ≤ q → A q := fun q h => by rw [← hAe]; exact Or.inr h
  have hS : va_S A s.heap s.heap [] := va_S.rf
  have hl := lv_entry ([.ref h0, .int (nI se), .int (nI bl), .int (nI pp), .int (nI qq)]) (n := 6) (Nat.le_of_ble_eq_true rfl)
  rw [lg_entry_eq]
  generalize (lg_sl ([.ref h0, .int (nI se), .int (nI bl), .int (nI pp), .int (nI qq)]) ++ List.replicate (6 - (lg_sl ([.ref h0, .int (nI se), .int (nI bl), .int (nI pp), .int (nI qq)])).length) Slot.unset).toArray = ls at hl ⊢
  have hl : lv_has ls 6 [(0, .ref h0), (1, .int (nI se)), (2, .int (nI bl)), (3, .int (nI pp)), (4, .int (nI qq))] := hl
  have g1 : 0 < bl * (qq - pp) := Nat.mul_pos (by omega) (by omega)
  have g2 : bl * (qq - pp) ≤ 30 * 100 := Nat.mul_le_mul hb2 (by omega)
  have g3 : 0 < 2 * bl * (qq - pp) := Nat.mul_pos (by omega) (by omega)
  have g4 : 2 * bl * (qq - pp) ≤ 60 * 100 := Nat.mul_le_mul (by omega) (by omega)
  refine va_new (ci := 6) (fs := [.int 0, .int 0, .null, .null, .int 0]) (C := RX6) (T := TX6) (N := 5) hx hb hts hinX6 tyX6 tyX6_ok hown (hts (.classLink RX3 18 RX6) (by decide +kernel)) (hts (.instantiable RX6 5) (by decide +kernel)) (hts (.initialized RX6) (by decide +kernel)) hK hP hD hS hA rfl (by decide +kernel) (Nat.le_of_ble_eq_true rfl) (Nat.le_of_ble_eq_true rfl) dX3_outerPart_0 (fun q0 H hP hD hS => ?_)
  have hP : va_P E.1 vwCl [(h0, .inr (3, [.ref aa, .ref ab, .ref ao, .ref ag, .ref ar, .int sh, .int rg])), (aa, .inl (E.2 2, 4, .inr (.inl (lA U)))), (ab, .inl (E.2 2, 4, .inr (.inl (lA V)))), (q0, .inr (6, [.int 0, .int 0, .null, .null, .int 0]))] H := hP
  have hD : va_D A [(h0, .inr (3, [.ref aa, .ref ab, .ref ao, .ref ag, .ref ar, .int sh, .int rg])), (aa, .inl (E.2 2, 4, .inr (.inl (lA U)))), (ab, .inl (E.2 2, 4, .inr (.inl (lA V)))), (q0, .inr (6, [.int 0, .int 0, .null, .null, .int 0]))] := hD
  refine W.widen (k := 1) (n := 5) (by omega) (by omega) ?_
  refine lv_dup hx hb dX3_outerPart_3 rfl ?_
  refine lv_iconst (v := 2) hx hb dX3_outerPart_4 (by decide) ?_
  refine lv_iload_n hx hb dX3_outerPart_5 rfl (lv_at hl 1 rfl) ?_
  refine wIv (wr := [(h0, .inr (3, [.ref aa, .ref ab, .ref ao, .ref ag, .ref ar, .int sh, .int rg])), (aa, .inl (E.2 2, 4, .inr (.inl (lA U)))), (ab, .inl (E.2 2, 4, .inr (.inl (lA V))))]) hE ⟨hx, hb, hml, hown, hts⟩ (c_X6_init l E H.size q0 2 (nI se) ) (cwI 2 hts gX3_outerPart_X6_init rfl rfl rfl (hts (.initialized RX6) (by decide +kernel)) (hts (.methodLink RX3 77 yX6_init) (by decide +kernel)) (hts (.instanceMethod yX6_init) (by decide +kernel)) rfl (by decide +kernel) ⟨Nat.le_of_ble_eq_true rfl, Nat.le_of_ble_eq_true rfl⟩) hP hD hS hA [3] [0, 1, 2] rfl rfl (by decide) (by decide) (by decide) rfl hl.1 rfl (Nat.le_of_ble_eq_true rfl) dX3_outerPart_6 ⟨Nat.le_of_ble_eq_true rfl, Nat.le_of_ble_eq_true rfl⟩ (fun u H locs hw hP hD hS => ?_)
  obtain ⟨qa_6, qb_6⟩ := u
  refine W.widen (k := 3) (n := 11) (by omega) (by omega) ?_
  have hP : va_P E.1 vwCl [(h0, .inr (3, [.ref aa, .ref ab, .ref ao, .ref ag, .ref ar, .int sh, .int rg])), (aa, .inl (E.2 2, 4, .inr (.inl (lA U)))), (ab, .inl (E.2 2, 4, .inr (.inl (lA V)))), (q0, .inr (6, [.int 2, .int (nI se), .ref qa_6, .ref qb_6, .int 0])), (qa_6, .inl (E.2 2, 3, .inr (.inl (lA (fun _ => 0))))), (qb_6, .inl (E.2 2, 3, .inr (.inl (lA (fun _ => 0)))))] H := hP
  have hD : va_D A [(h0, .inr (3, [.ref aa, .ref ab, .ref ao, .ref ag, .ref ar, .int sh, .int rg])), (aa, .inl (E.2 2, 4, .inr (.inl (lA U)))), (ab, .inl (E.2 2, 4, .inr (.inl (lA V)))), (q0, .inr (6, [.int 2, .int (nI se), .ref qa_6, .ref qb_6, .int 0])), (qa_6, .inl (E.2 2, 3, .inr (.inl (lA (fun _ => 0))))), (qb_6, .inl (E.2 2, 3, .inr (.inl (lA (fun _ => 0)))))] := hD
  refine lv_astore (lv' := [(5, .ref q0), (0, .ref h0), (1, .int (nI se)), (2, .int (nI bl)), (3, .int (nI pp)), (4, .int (nI qq))]) hx hb dX3_outerPart_9 hl (by decide) rfl (fun ls hl => ?_)
  refine lv_aload_n hx hb dX3_outerPart_11 rfl (lv_at hl 1 rfl) ?_
  refine lv_aload hx hb dX3_outerPart_12 (lv_at hl 0 rfl) ?_
  refine lv_iload_n hx hb dX3_outerPart_14 rfl (lv_at hl 3 rfl) ?_
  refine lv_iload hx hb dX3_outerPart_15 (lv_at hl 5 rfl) ?_
  refine lv_iload_n hx hb dX3_outerPart_17 rfl (lv_at hl 4 rfl) ?_
  refine lv_isub hx hb dX3_outerPart_18 ?_
  rw [show ((nI qq) - (nI pp) : Int32) = nI (qq - pp) from pk_sub (a := qq) (b := pp) (by omega)]
  refine lv_imul hx hb dX3_outerPart_19 ?_
  rw [show ((nI bl) * (nI (qq - pp)) : Int32) = nI (bl * (qq - pp)) from pk_mul bl (qq - pp)]
  refine lv_iconst (v := 2) hx hb dX3_outerPart_20 (by decide) ?_
  refine lv_iload hx hb dX3_outerPart_21 (lv_at hl 5 rfl) ?_
  refine lv_imul hx hb dX3_outerPart_23 ?_
  rw [show ((2 : Int32) * (nI qq) : Int32) = nI (2 * qq) from pk_mul 2 qq]
  refine wVv (wr := []) hE ⟨hx, hb, hml, hown, hts⟩ (c_X3_addMultiple l E H.size h0 aa ab ao ag ar sh rg U V q0 2 se qa_6 qb_6 0 (fun _ => 0) (fun _ => 0) (bl * (qq - pp)) (2 * qq) (by omega) (hse) (hU1) (hU2) (hV1) (hV2) (by omega) (by omega) (by omega) (by omega)) (cwV 3 hts gX3_outerPart_X3_addMultiple rfl rfl rfl (by decide +kernel) ⟨Nat.le_of_ble_eq_true rfl, Nat.le_of_ble_eq_true rfl⟩) hP hD hS hA [0, 1, 2, 3, 4, 5] [] rfl rfl (by decide) (by decide) (by decide) 0 3 rfl rfl rfl hl.1 rfl (Nat.le_of_ble_eq_true rfl) dX3_outerPart_24 ⟨Nat.le_of_ble_eq_true rfl, Nat.le_of_ble_eq_true rfl⟩ (fun u H locs hw hP hD hS => ?_)
  refine W.widen (k := 3) (n := 11) (by omega) (by omega) ?_
  have hP : va_P E.1 vwCl [(h0, .inr (3, [.ref aa, .ref ab, .ref ao, .ref ag, .ref ar, .int sh, .int rg])), (aa, .inl (E.2 2, 4, .inr (.inl (lA U)))), (ab, .inl (E.2 2, 4, .inr (.inl (lA V)))), (q0, .inr (6, [.int 2, .int (nI se), .ref qa_6, .ref qb_6, .int (nI (0 + 1))])), (qa_6, .inl (E.2 2, 3, .inr (.inl (lA (updN (fun _ => 0) 0 (tA (U se * (bl * (qq - pp))) (V se * (2 * qq)))))))), (qb_6, .inl (E.2 2, 3, .inr (.inl (lA (updN (fun _ => 0) 0 (tB (U se * (bl * (qq - pp))) (V se * (2 * qq))))))))] H := hP
  have hD : va_D A [(h0, .inr (3, [.ref aa, .ref ab, .ref ao, .ref ag, .ref ar, .int sh, .int rg])), (aa, .inl (E.2 2, 4, .inr (.inl (lA U)))), (ab, .inl (E.2 2, 4, .inr (.inl (lA V)))), (q0, .inr (6, [.int 2, .int (nI se), .ref qa_6, .ref qb_6, .int (nI (0 + 1))])), (qa_6, .inl (E.2 2, 3, .inr (.inl (lA (updN (fun _ => 0) 0 (tA (U se * (bl * (qq - pp))) (V se * (2 * qq)))))))), (qb_6, .inl (E.2 2, 3, .inr (.inl (lA (updN (fun _ => 0) 0 (tB (U se * (bl * (qq - pp))) (V se * (2 * qq))))))))] := hD
  refine lv_aload_n hx hb dX3_outerPart_27 rfl (lv_at hl 1 rfl) ?_
  refine lv_aload hx hb dX3_outerPart_28 (lv_at hl 0 rfl) ?_
  refine lv_iconst (v := 2) hx hb dX3_outerPart_30 (by decide) ?_
  refine lv_iload_n hx hb dX3_outerPart_31 rfl (lv_at hl 3 rfl) ?_
  refine lv_imul hx hb dX3_outerPart_32 ?_
  rw [show ((2 : Int32) * (nI bl) : Int32) = nI (2 * bl) from pk_mul 2 bl]
  refine lv_iload hx hb dX3_outerPart_33 (lv_at hl 5 rfl) ?_
  refine lv_iload_n hx hb dX3_outerPart_35 rfl (lv_at hl 4 rfl) ?_
  refine lv_isub hx hb dX3_outerPart_36 ?_
  rw [show ((nI qq) - (nI pp) : Int32) = nI (qq - pp) from pk_sub (a := qq) (b := pp) (by omega)]
  refine lv_imul hx hb dX3_outerPart_37 ?_
  rw [show ((nI (2 * bl)) * (nI (qq - pp)) : Int32) = nI ((2 * bl) * (qq - pp)) from pk_mul (2 * bl) (qq - pp)]
  refine lv_iconst (v := 2) hx hb dX3_outerPart_38 (by decide) ?_
  refine lv_iload hx hb dX3_outerPart_39 (lv_at hl 5 rfl) ?_
  refine lv_imul hx hb dX3_outerPart_41 ?_
  rw [show ((2 : Int32) * (nI qq) : Int32) = nI (2 * qq) from pk_mul 2 qq]
  refine wVv (wr := []) hE ⟨hx, hb, hml, hown, hts⟩ (c_X3_addMultiple l E H.size h0 aa ab ao ag ar sh rg U V q0 2 se qa_6 qb_6 (0 + 1) (updN (fun _ => 0) 0 (tA (U se * (bl * (qq - pp))) (V se * (2 * qq)))) (updN (fun _ => 0) 0 (tB (U se * (bl * (qq - pp))) (V se * (2 * qq)))) ((2 * bl) * (qq - pp)) (2 * qq) (by omega) (hse) (hU1) (hU2) (hV1) (hV2) (by omega) (by omega) (by omega) (by omega)) (cwV 3 hts gX3_outerPart_X3_addMultiple rfl rfl rfl (by decide +kernel) ⟨Nat.le_of_ble_eq_true rfl, Nat.le_of_ble_eq_true rfl⟩) hP hD hS hA [0, 1, 2, 3, 4, 5] [] rfl rfl (by decide) (by decide) (by decide) 0 3 rfl rfl rfl hl.1 rfl (Nat.le_of_ble_eq_true rfl) dX3_outerPart_42 ⟨Nat.le_of_ble_eq_true rfl, Nat.le_of_ble_eq_true rfl⟩ (fun u H locs hw hP hD hS => ?_)
  refine W.widen (k := 3) (n := 11) (by omega) (by omega) ?_
  have hP : va_P E.1 vwCl [(h0, .inr (3, [.ref aa, .ref ab, .ref ao, .ref ag, .ref ar, .int sh, .int rg])), (aa, .inl (E.2 2, 4, .inr (.inl (lA U)))), (ab, .inl (E.2 2, 4, .inr (.inl (lA V)))), (q0, .inr (6, [.int 2, .int (nI se), .ref qa_6, .ref qb_6, .int (nI ((0 + 1) + 1))])), (qa_6, .inl (E.2 2, 3, .inr (.inl (lA (updN (updN (fun _ => 0) 0 (tA (U se * (bl * (qq - pp))) (V se * (2 * qq)))) (0 + 1) (tA (U se * ((2 * bl) * (qq - pp))) (V se * (2 * qq)))))))), (qb_6, .inl (E.2 2, 3, .inr (.inl (lA (updN (updN (fun _ => 0) 0 (tB (U se * (bl * (qq - pp))) (V se * (2 * qq)))) (0 + 1) (tB (U se * ((2 * bl) * (qq - pp))) (V se * (2 * qq))))))))] H := hP
  have hD : va_D A [(h0, .inr (3, [.ref aa, .ref ab, .ref ao, .ref ag, .ref ar, .int sh, .int rg])), (aa, .inl (E.2 2, 4, .inr (.inl (lA U)))), (ab, .inl (E.2 2, 4, .inr (.inl (lA V)))), (q0, .inr (6, [.int 2, .int (nI se), .ref qa_6, .ref qb_6, .int (nI ((0 + 1) + 1))])), (qa_6, .inl (E.2 2, 3, .inr (.inl (lA (updN (updN (fun _ => 0) 0 (tA (U se * (bl * (qq - pp))) (V se * (2 * qq)))) (0 + 1) (tA (U se * ((2 * bl) * (qq - pp))) (V se * (2 * qq)))))))), (qb_6, .inl (E.2 2, 3, .inr (.inl (lA (updN (updN (fun _ => 0) 0 (tB (U se * (bl * (qq - pp))) (V se * (2 * qq)))) (0 + 1) (tB (U se * ((2 * bl) * (qq - pp))) (V se * (2 * qq))))))))] := hD
  refine lv_aload hx hb dX3_outerPart_45 (lv_at hl 0 rfl) ?_
  have e9 : ([(h0, .inr (3, [.ref aa, .ref ab, .ref ao, .ref ag, .ref ar, .int sh, .int rg])), (aa, .inl (E.2 2, 4, .inr (.inl (lA U)))), (ab, .inl (E.2 2, 4, .inr (.inl (lA V)))), (q0, .inr (6, [.int 2, .int (nI se), .ref qa_6, .ref qb_6, .int (nI 2)])), (qa_6, .inl (E.2 2, 3, .inr (.inl (lA (t2 (tA (U se * (bl * (qq - pp))) (V se * (2 * qq))) (tA (U se * (2 * bl * (qq - pp))) (V se * (2 * qq)))))))), (qb_6, .inl (E.2 2, 3, .inr (.inl (lA (t2 (tB (U se * (bl * (qq - pp))) (V se * (2 * qq))) (tB (U se * (2 * bl * (qq - pp))) (V se * (2 * qq))))))))] : va_W) = [(h0, .inr (3, [.ref aa, .ref ab, .ref ao, .ref ag, .ref ar, .int sh, .int rg])), (aa, .inl (E.2 2, 4, .inr (.inl (lA U)))), (ab, .inl (E.2 2, 4, .inr (.inl (lA V)))), (q0, .inr (6, [.int 2, .int (nI se), .ref qa_6, .ref qb_6, .int (nI ((0 + 1) + 1))])), (qa_6, .inl (E.2 2, 3, .inr (.inl (lA (updN (updN (fun _ => 0) 0 (tA (U se * (bl * (qq - pp))) (V se * (2 * qq)))) (0 + 1) (tA (U se * ((2 * bl) * (qq - pp))) (V se * (2 * qq)))))))), (qb_6, .inl (E.2 2, 3, .inr (.inl (lA (updN (updN (fun _ => 0) 0 (tB (U se * (bl * (qq - pp))) (V se * (2 * qq)))) (0 + 1) (tB (U se * ((2 * bl) * (qq - pp))) (V se * (2 * qq))))))))] := by rfl
  have hP9 : va_P E.1 vwCl [(h0, .inr (3, [.ref aa, .ref ab, .ref ao, .ref ag, .ref ar, .int sh, .int rg])), (aa, .inl (E.2 2, 4, .inr (.inl (lA U)))), (ab, .inl (E.2 2, 4, .inr (.inl (lA V)))), (q0, .inr (6, [.int 2, .int (nI se), .ref qa_6, .ref qb_6, .int (nI 2)])), (qa_6, .inl (E.2 2, 3, .inr (.inl (lA (t2 (tA (U se * (bl * (qq - pp))) (V se * (2 * qq))) (tA (U se * (2 * bl * (qq - pp))) (V se * (2 * qq)))))))), (qb_6, .inl (E.2 2, 3, .inr (.inl (lA (t2 (tB (U se * (bl * (qq - pp))) (V se * (2 * qq))) (tB (U se * (2 * bl * (qq - pp))) (V se * (2 * qq))))))))] H := by rw [e9]; exact hP.sub [0, 1, 2, 3, 4, 5] rfl
  have hD9 : va_D A [(h0, .inr (3, [.ref aa, .ref ab, .ref ao, .ref ag, .ref ar, .int sh, .int rg])), (aa, .inl (E.2 2, 4, .inr (.inl (lA U)))), (ab, .inl (E.2 2, 4, .inr (.inl (lA V)))), (q0, .inr (6, [.int 2, .int (nI se), .ref qa_6, .ref qb_6, .int (nI 2)])), (qa_6, .inl (E.2 2, 3, .inr (.inl (lA (t2 (tA (U se * (bl * (qq - pp))) (V se * (2 * qq))) (tA (U se * (2 * bl * (qq - pp))) (V se * (2 * qq)))))))), (qb_6, .inl (E.2 2, 3, .inr (.inl (lA (t2 (tB (U se * (bl * (qq - pp))) (V se * (2 * qq))) (tB (U se * (2 * bl * (qq - pp))) (V se * (2 * qq))))))))] := by rw [e9]; exact hD.sub [0, 1, 2, 3, 4, 5] (by decide) rfl
  exact W.aret (v := .ref q0) hx hb hr (Or.inl ⟨_, rfl⟩) (Or.inr ⟨_, rfl⟩) (fun t9 ht9 hW9 => ⟨⟨(qa_6, qb_6), q0, rfl, trivial, ⟨by rw [ht9]; exact hP9, hD9⟩⟩, hS.F ht9⟩) hS.2.2 dX3_outerPart_47
set_option maxHeartbeats 1000000 in
set_option maxRecDepth 100000 in
theorem c_X3_innerPart (l : Launch) (E : EnvT) (sz : Nat) (h0 : Nat) (aa : Nat) (ab : Nat) (ao : Nat) (ag : Nat) (ar : Nat) (sh : Int32) (rg : Int32) (U : Nat → Nat) (V : Nat → Nat) (se : Nat) (bl : Nat) (pp : Nat) (qq : Nat) (hse : se < 4) (hU1 : 0 < U se) (hU2 : U se ≤ 8000000) (hV1 : 0 < V se) (hV2 : V se ≤ 8000000) (hb1 : 3 ≤ bl) (hb2 : bl ≤ 30) (hp1 : 1 ≤ pp) (hpq : pp < qq) (hq2 : qq ≤ 100) : Met l yX3_innerPart wsX3_innerPart ({ frames := 4, cells := 3, slots := 11, locals := 102 }) (va_Pc [.ref h0, .int (nI se), .int (nI bl), .int (nI pp), .int (nI qq)] (PW E [(h0, .inr (3, [.ref aa, .ref ab, .ref ao, .ref ag, .ref ar, .int sh, .int rg])), (aa, .inl (E.2 2, 4, .inr (.inl (lA U)))), (ab, .inl (E.2 2, 4, .inr (.inl (lA V))))] sz)) (va_Qr (fun (uu : Nat × Nat) => True) (fun (uu : Nat × Nat) (ra : Nat) t => BW E (va_A [(h0, .inr (3, [.ref aa, .ref ab, .ref ao, .ref ag, .ref ar, .int sh, .int rg])), (aa, .inl (E.2 2, 4, .inr (.inl (lA U)))), (ab, .inl (E.2 2, 4, .inr (.inl (lA V))))] sz) [(h0, .inr (3, [.ref aa, .ref ab, .ref ao, .ref ag, .ref ar, .int sh, .int rg])), (aa, .inl (E.2 2, 4, .inr (.inl (lA U)))), (ab, .inl (E.2 2, 4, .inr (.inl (lA V)))), (ra, .inr (6, [.int 3, .int (nI se), .ref uu.1, .ref uu.2, .int (nI 3)])), (uu.1, .inl (E.2 2, 3, .inr (.inl (lA (t3 (tA (U se * (bl * (qq + pp))) (V se * (2 * qq))) (tA (U se * (2 * bl * (qq + pp))) (V se * (2 * qq))) (tA (U se * (bl * (qq + pp) - 2 * qq)) (V se * (2 * qq)))))))), (uu.2, .inl (E.2 2, 3, .inr (.inl (lA (t3 (tB (U se * (bl * (qq + pp))) (V se * (2 * qq))) (tB (U se * (2 * bl * (qq + pp))) (V se * (2 * qq))) (tB (U se * (bl * (qq + pp) - 2 * qq)) (V se * (2 * qq))))))))] t) (va_A [(h0, .inr (3, [.ref aa, .ref ab, .ref ao, .ref ag, .ref ar, .int sh, .int rg])), (aa, .inl (E.2 2, 4, .inr (.inl (lA U)))), (ab, .inl (E.2 2, 4, .inr (.inl (lA V))))] sz)) 3 11 (va_A [(h0, .inr (3, [.ref aa, .ref ab, .ref ao, .ref ag, .ref ar, .int sh, .int rg])), (aa, .inl (E.2 2, 4, .inr (.inl (lA U)))), (ab, .inl (E.2 2, 4, .inr (.inl (lA V))))] sz) := by
  refine Met.ofW (cc := cX3_innerPart) (maxL := 6) (ret := (some (.object "WornRings$Part"))) (by decide +kernel) rfl ?_
  intro p e s m args below meth c s₁ B hml hv
  obtain ⟨rfl, hsz, hP, hE, hD0⟩ := hv
  have hx := B.exec
  have hb := B.bytes
  have hr := B.returns
  have hts := atoms_spec (ws := wsX3_innerPart) B.pre
  have hown : s.vm.findClass RX3 = some m.cls := findClass_of_methodNamed B.named
  have hlocks := B.notSynchronized
  have hK := hE.1
  have hNN := hE.2.1
  have hinX6 : ∀ w ∈ wsX60, w ∈ wsX3_innerPart := fun w h => List.mem_cons_of_mem _ (List.mem_append_left _ (List.mem_append_right _ h))
  subst hsz
  have hD := hD0.self (sz := s.heap.size)
  generalize hAe : va_A [(h0, .inr (3, [.ref aa, .ref ab, .ref ao, .ref ag, .ref ar, .int sh, .int rg])), (aa, .inl (E.2 2, 4, .inr (.inl (lA U)))), (ab, .inl (E.2 2, 4, .inr (.inl (lA V))))] s.heap.size = A at hD ⊢
  have hA : ∀ q : Nat, s.heap.size ≤ q → A q := fun q h => by rw [← hAe]; exact Or.inr h
  have hS : va_S A s.heap s.heap [] := va_S.rf
  have hl := lv_entry ([.ref h0, .int (nI se), .int (nI bl), .int (nI pp), .int (nI qq)]) (n := 6) (Nat.le_of_ble_eq_true rfl)
  rw [lg_entry_eq]
  generalize (lg_sl ([.ref h0, .int (nI se), .int (nI bl), .int (nI pp), .int (nI qq)]) ++ List.replicate (6 - (lg_sl ([.ref h0, .int (nI se), .int (nI bl), .int (nI pp), .int (nI qq)])).length) Slot.unset).toArray = ls at hl ⊢
  have hl : lv_has ls 6 [(0, .ref h0), (1, .int (nI se)), (2, .int (nI bl)), (3, .int (nI pp)), (4, .int (nI qq))] := hl
  have g1 : 3 * (qq + pp) ≤ bl * (qq + pp) := Nat.mul_le_mul_right _ hb1
  have g2 : bl * (qq + pp) ≤ 30 * 200 := Nat.mul_le_mul hb2 (by omega)
  have g3 : 0 < 2 * bl * (qq + pp) := Nat.mul_pos (by omega) (by omega)
  have g4 : 2 * bl * (qq + pp) ≤ 60 * 200 := Nat.mul_le_mul (by omega) (by omega)
  refine va_new (ci := 6) (fs := [.int 0, .int 0, .null, .null, .int 0]) (C := RX6) (T := TX6) (N := 5) hx hb hts hinX6 tyX6 tyX6_ok hown (hts (.classLink RX3 18 RX6) (by decide +kernel)) (hts (.instantiable RX6 5) (by decide +kernel)) (hts (.initialized RX6) (by decide +kernel)) hK hP hD hS hA rfl (by decide +kernel) (Nat.le_of_ble_eq_true rfl) (Nat.le_of_ble_eq_true rfl) dX3_innerPart_0 (fun q0 H hP hD hS => ?_)
  have hP : va_P E.1 vwCl [(h0, .inr (3, [.ref aa, .ref ab, .ref ao, .ref ag, .ref ar, .int sh, .int rg])), (aa, .inl (E.2 2, 4, .inr (.inl (lA U)))), (ab, .inl (E.2 2, 4, .inr (.inl (lA V)))), (q0, .inr (6, [.int 0, .int 0, .null, .null, .int 0]))] H := hP
  have hD : va_D A [(h0, .inr (3, [.ref aa, .ref ab, .ref ao, .ref ag, .ref ar, .int sh, .int rg])), (aa, .inl (E.2 2, 4, .inr (.inl (lA U)))), (ab, .inl (E.2 2, 4, .inr (.inl (lA V)))), (q0, .inr (6, [.int 0, .int 0, .null, .null, .int 0]))] := hD
  refine W.widen (k := 1) (n := 5) (by omega) (by omega) ?_
  refine lv_dup hx hb dX3_innerPart_3 rfl ?_
  refine lv_iconst (v := 3) hx hb dX3_innerPart_4 (by decide) ?_
  refine lv_iload_n hx hb dX3_innerPart_5 rfl (lv_at hl 1 rfl) ?_
  refine wIv (wr := [(h0, .inr (3, [.ref aa, .ref ab, .ref ao, .ref ag, .ref ar, .int sh, .int rg])), (aa, .inl (E.2 2, 4, .inr (.inl (lA U)))), (ab, .inl (E.2 2, 4, .inr (.inl (lA V))))]) hE ⟨hx, hb, hml, hown, hts⟩ (c_X6_init l E H.size q0 3 (nI se) ) (cwI 2 hts gX3_innerPart_X6_init rfl rfl rfl (hts (.initialized RX6) (by decide +kernel)) (hts (.methodLink RX3 77 yX6_init) (by decide +kernel)) (hts (.instanceMethod yX6_init) (by decide +kernel)) rfl (by decide +kernel) ⟨Nat.le_of_ble_eq_true rfl, Nat.le_of_ble_eq_true rfl⟩) hP hD hS hA [3] [0, 1, 2] rfl rfl (by decide) (by decide) (by decide) rfl hl.1 rfl (Nat.le_of_ble_eq_true rfl) dX3_innerPart_6 ⟨Nat.le_of_ble_eq_true rfl, Nat.le_of_ble_eq_true rfl⟩ (fun u H locs hw hP hD hS => ?_)
  obtain ⟨qa_6, qb_6⟩ := u
  refine W.widen (k := 3) (n := 11) (by omega) (by omega) ?_
  have hP : va_P E.1 vwCl [(h0, .inr (3, [.ref aa, .ref ab, .ref ao, .ref ag, .ref ar, .int sh, .int rg])), (aa, .inl (E.2 2, 4, .inr (.inl (lA U)))), (ab, .inl (E.2 2, 4, .inr (.inl (lA V)))), (q0, .inr (6, [.int 3, .int (nI se), .ref qa_6, .ref qb_6, .int 0])), (qa_6, .inl (E.2 2, 3, .inr (.inl (lA (fun _ => 0))))), (qb_6, .inl (E.2 2, 3, .inr (.inl (lA (fun _ => 0)))))] H := hP
  have hD : va_D A [(h0, .inr (3, [.ref aa, .ref ab, .ref ao, .ref ag, .ref ar, .int sh, .int rg])), (aa, .inl (E.2 2, 4, .inr (.inl (lA U)))), (ab, .inl (E.2 2, 4, .inr (.inl (lA V)))), (q0, .inr (6, [.int 3, .int (nI se), .ref qa_6, .ref qb_6, .int 0])), (qa_6, .inl (E.2 2, 3, .inr (.inl (lA (fun _ => 0))))), (qb_6, .inl (E.2 2, 3, .inr (.inl (lA (fun _ => 0)))))] := hD
  refine lv_astore (lv' := [(5, .ref q0), (0, .ref h0), (1, .int (nI se)), (2, .int (nI bl)), (3, .int (nI pp)), (4, .int (nI qq))]) hx hb dX3_innerPart_9 hl (by decide) rfl (fun ls hl => ?_)
  refine lv_aload_n hx hb dX3_innerPart_11 rfl (lv_at hl 1 rfl) ?_
  refine lv_aload hx hb dX3_innerPart_12 (lv_at hl 0 rfl) ?_
  refine lv_iload_n hx hb dX3_innerPart_14 rfl (lv_at hl 3 rfl) ?_
  refine lv_iload hx hb dX3_innerPart_15 (lv_at hl 5 rfl) ?_
  refine lv_iload_n hx hb dX3_innerPart_17 rfl (lv_at hl 4 rfl) ?_
  refine lv_iadd hx hb dX3_innerPart_18 ?_
  rw [show ((nI qq) + (nI pp) : Int32) = nI (qq + pp) from nI_add qq pp]
  refine lv_imul hx hb dX3_innerPart_19 ?_
  rw [show ((nI bl) * (nI (qq + pp)) : Int32) = nI (bl * (qq + pp)) from pk_mul bl (qq + pp)]
  refine lv_iconst (v := 2) hx hb dX3_innerPart_20 (by decide) ?_
  refine lv_iload hx hb dX3_innerPart_21 (lv_at hl 5 rfl) ?_
  refine lv_imul hx hb dX3_innerPart_23 ?_
  rw [show ((2 : Int32) * (nI qq) : Int32) = nI (2 * qq) from pk_mul 2 qq]
  refine wVv (wr := []) hE ⟨hx, hb, hml, hown, hts⟩ (c_X3_addMultiple l E H.size h0 aa ab ao ag ar sh rg U V q0 3 se qa_6 qb_6 0 (fun _ => 0) (fun _ => 0) (bl * (qq + pp)) (2 * qq) (by omega) (hse) (hU1) (hU2) (hV1) (hV2) (by omega) (by omega) (by omega) (by omega)) (cwV 3 hts gX3_innerPart_X3_addMultiple rfl rfl rfl (by decide +kernel) ⟨Nat.le_of_ble_eq_true rfl, Nat.le_of_ble_eq_true rfl⟩) hP hD hS hA [0, 1, 2, 3, 4, 5] [] rfl rfl (by decide) (by decide) (by decide) 0 3 rfl rfl rfl hl.1 rfl (Nat.le_of_ble_eq_true rfl) dX3_innerPart_24 ⟨Nat.le_of_ble_eq_true rfl, Nat.le_of_ble_eq_true rfl⟩ (fun u H locs hw hP hD hS => ?_)
  refine W.widen (k := 3) (n := 11) (by omega) (by omega) ?_
  have hP : va_P E.1 vwCl [(h0, .inr (3, [.ref aa, .ref ab, .ref ao, .ref ag, .ref ar, .int sh, .int rg])), (aa, .inl (E.2 2, 4, .inr (.inl (lA U)))), (ab, .inl (E.2 2, 4, .inr (.inl (lA V)))), (q0, .inr (6, [.int 3, .int (nI se), .ref qa_6, .ref qb_6, .int (nI (0 + 1))])), (qa_6, .inl (E.2 2, 3, .inr (.inl (lA (updN (fun _ => 0) 0 (tA (U se * (bl * (qq + pp))) (V se * (2 * qq)))))))), (qb_6, .inl (E.2 2, 3, .inr (.inl (lA (updN (fun _ => 0) 0 (tB (U se * (bl * (qq + pp))) (V se * (2 * qq))))))))] H := hP
  have hD : va_D A [(h0, .inr (3, [.ref aa, .ref ab, .ref ao, .ref ag, .ref ar, .int sh, .int rg])), (aa, .inl (E.2 2, 4, .inr (.inl (lA U)))), (ab, .inl (E.2 2, 4, .inr (.inl (lA V)))), (q0, .inr (6, [.int 3, .int (nI se), .ref qa_6, .ref qb_6, .int (nI (0 + 1))])), (qa_6, .inl (E.2 2, 3, .inr (.inl (lA (updN (fun _ => 0) 0 (tA (U se * (bl * (qq + pp))) (V se * (2 * qq)))))))), (qb_6, .inl (E.2 2, 3, .inr (.inl (lA (updN (fun _ => 0) 0 (tB (U se * (bl * (qq + pp))) (V se * (2 * qq))))))))] := hD
  refine lv_aload_n hx hb dX3_innerPart_27 rfl (lv_at hl 1 rfl) ?_
  refine lv_aload hx hb dX3_innerPart_28 (lv_at hl 0 rfl) ?_
  refine lv_iconst (v := 2) hx hb dX3_innerPart_30 (by decide) ?_
  refine lv_iload_n hx hb dX3_innerPart_31 rfl (lv_at hl 3 rfl) ?_
  refine lv_imul hx hb dX3_innerPart_32 ?_
  rw [show ((2 : Int32) * (nI bl) : Int32) = nI (2 * bl) from pk_mul 2 bl]
  refine lv_iload hx hb dX3_innerPart_33 (lv_at hl 5 rfl) ?_
  refine lv_iload_n hx hb dX3_innerPart_35 rfl (lv_at hl 4 rfl) ?_
  refine lv_iadd hx hb dX3_innerPart_36 ?_
  rw [show ((nI qq) + (nI pp) : Int32) = nI (qq + pp) from nI_add qq pp]
  refine lv_imul hx hb dX3_innerPart_37 ?_
  rw [show ((nI (2 * bl)) * (nI (qq + pp)) : Int32) = nI ((2 * bl) * (qq + pp)) from pk_mul (2 * bl) (qq + pp)]
  refine lv_iconst (v := 2) hx hb dX3_innerPart_38 (by decide) ?_
  refine lv_iload hx hb dX3_innerPart_39 (lv_at hl 5 rfl) ?_
  refine lv_imul hx hb dX3_innerPart_41 ?_
  rw [show ((2 : Int32) * (nI qq) : Int32) = nI (2 * qq) from pk_mul 2 qq]
  refine wVv (wr := []) hE ⟨hx, hb, hml, hown, hts⟩ (c_X3_addMultiple l E H.size h0 aa ab ao ag ar sh rg U V q0 3 se qa_6 qb_6 (0 + 1) (updN (fun _ => 0) 0 (tA (U se * (bl * (qq + pp))) (V se * (2 * qq)))) (updN (fun _ => 0) 0 (tB (U se * (bl * (qq + pp))) (V se * (2 * qq)))) ((2 * bl) * (qq + pp)) (2 * qq) (by omega) (hse) (hU1) (hU2) (hV1) (hV2) (by omega) (by omega) (by omega) (by omega)) (cwV 3 hts gX3_innerPart_X3_addMultiple rfl rfl rfl (by decide +kernel) ⟨Nat.le_of_ble_eq_true rfl, Nat.le_of_ble_eq_true rfl⟩) hP hD hS hA [0, 1, 2, 3, 4, 5] [] rfl rfl (by decide) (by decide) (by decide) 0 3 rfl rfl rfl hl.1 rfl (Nat.le_of_ble_eq_true rfl) dX3_innerPart_42 ⟨Nat.le_of_ble_eq_true rfl, Nat.le_of_ble_eq_true rfl⟩ (fun u H locs hw hP hD hS => ?_)
  refine W.widen (k := 3) (n := 11) (by omega) (by omega) ?_
  have hP : va_P E.1 vwCl [(h0, .inr (3, [.ref aa, .ref ab, .ref ao, .ref ag, .ref ar, .int sh, .int rg])), (aa, .inl (E.2 2, 4, .inr (.inl (lA U)))), (ab, .inl (E.2 2, 4, .inr (.inl (lA V)))), (q0, .inr (6, [.int 3, .int (nI se), .ref qa_6, .ref qb_6, .int (nI ((0 + 1) + 1))])), (qa_6, .inl (E.2 2, 3, .inr (.inl (lA (updN (updN (fun _ => 0) 0 (tA (U se * (bl * (qq + pp))) (V se * (2 * qq)))) (0 + 1) (tA (U se * ((2 * bl) * (qq + pp))) (V se * (2 * qq)))))))), (qb_6, .inl (E.2 2, 3, .inr (.inl (lA (updN (updN (fun _ => 0) 0 (tB (U se * (bl * (qq + pp))) (V se * (2 * qq)))) (0 + 1) (tB (U se * ((2 * bl) * (qq + pp))) (V se * (2 * qq))))))))] H := hP
  have hD : va_D A [(h0, .inr (3, [.ref aa, .ref ab, .ref ao, .ref ag, .ref ar, .int sh, .int rg])), (aa, .inl (E.2 2, 4, .inr (.inl (lA U)))), (ab, .inl (E.2 2, 4, .inr (.inl (lA V)))), (q0, .inr (6, [.int 3, .int (nI se), .ref qa_6, .ref qb_6, .int (nI ((0 + 1) + 1))])), (qa_6, .inl (E.2 2, 3, .inr (.inl (lA (updN (updN (fun _ => 0) 0 (tA (U se * (bl * (qq + pp))) (V se * (2 * qq)))) (0 + 1) (tA (U se * ((2 * bl) * (qq + pp))) (V se * (2 * qq)))))))), (qb_6, .inl (E.2 2, 3, .inr (.inl (lA (updN (updN (fun _ => 0) 0 (tB (U se * (bl * (qq + pp))) (V se * (2 * qq)))) (0 + 1) (tB (U se * ((2 * bl) * (qq + pp))) (V se * (2 * qq))))))))] := hD
  refine lv_aload_n hx hb dX3_innerPart_45 rfl (lv_at hl 1 rfl) ?_
  refine lv_aload hx hb dX3_innerPart_46 (lv_at hl 0 rfl) ?_
  refine lv_iload_n hx hb dX3_innerPart_48 rfl (lv_at hl 3 rfl) ?_
  refine lv_iload hx hb dX3_innerPart_49 (lv_at hl 5 rfl) ?_
  refine lv_iload_n hx hb dX3_innerPart_51 rfl (lv_at hl 4 rfl) ?_
  refine lv_iadd hx hb dX3_innerPart_52 ?_
  rw [show ((nI qq) + (nI pp) : Int32) = nI (qq + pp) from nI_add qq pp]
  refine lv_imul hx hb dX3_innerPart_53 ?_
  rw [show ((nI bl) * (nI (qq + pp)) : Int32) = nI (bl * (qq + pp)) from pk_mul bl (qq + pp)]
  refine lv_iconst (v := 2) hx hb dX3_innerPart_54 (by decide) ?_
  refine lv_iload hx hb dX3_innerPart_55 (lv_at hl 5 rfl) ?_
  refine lv_imul hx hb dX3_innerPart_57 ?_
  rw [show ((2 : Int32) * (nI qq) : Int32) = nI (2 * qq) from pk_mul 2 qq]
  refine lv_isub hx hb dX3_innerPart_58 ?_
  rw [show ((nI (bl * (qq + pp))) - (nI (2 * qq)) : Int32) = nI ((bl * (qq + pp)) - (2 * qq)) from pk_sub (a := (bl * (qq + pp))) (b := (2 * qq)) (by omega)]
  refine lv_iconst (v := 2) hx hb dX3_innerPart_59 (by decide) ?_
  refine lv_iload hx hb dX3_innerPart_60 (lv_at hl 5 rfl) ?_
  refine lv_imul hx hb dX3_innerPart_62 ?_
  rw [show ((2 : Int32) * (nI qq) : Int32) = nI (2 * qq) from pk_mul 2 qq]
  refine wVv (wr := []) hE ⟨hx, hb, hml, hown, hts⟩ (c_X3_addMultiple l E H.size h0 aa ab ao ag ar sh rg U V q0 3 se qa_6 qb_6 ((0 + 1) + 1) (updN (updN (fun _ => 0) 0 (tA (U se * (bl * (qq + pp))) (V se * (2 * qq)))) (0 + 1) (tA (U se * ((2 * bl) * (qq + pp))) (V se * (2 * qq)))) (updN (updN (fun _ => 0) 0 (tB (U se * (bl * (qq + pp))) (V se * (2 * qq)))) (0 + 1) (tB (U se * ((2 * bl) * (qq + pp))) (V se * (2 * qq)))) ((bl * (qq + pp)) - (2 * qq)) (2 * qq) (by omega) (hse) (hU1) (hU2) (hV1) (hV2) (by omega) (by omega) (by omega) (by omega)) (cwV 3 hts gX3_innerPart_X3_addMultiple rfl rfl rfl (by decide +kernel) ⟨Nat.le_of_ble_eq_true rfl, Nat.le_of_ble_eq_true rfl⟩) hP hD hS hA [0, 1, 2, 3, 4, 5] [] rfl rfl (by decide) (by decide) (by decide) 0 3 rfl rfl rfl hl.1 rfl (Nat.le_of_ble_eq_true rfl) dX3_innerPart_63 ⟨Nat.le_of_ble_eq_true rfl, Nat.le_of_ble_eq_true rfl⟩ (fun u H locs hw hP hD hS => ?_)
  refine W.widen (k := 3) (n := 11) (by omega) (by omega) ?_
  have hP : va_P E.1 vwCl [(h0, .inr (3, [.ref aa, .ref ab, .ref ao, .ref ag, .ref ar, .int sh, .int rg])), (aa, .inl (E.2 2, 4, .inr (.inl (lA U)))), (ab, .inl (E.2 2, 4, .inr (.inl (lA V)))), (q0, .inr (6, [.int 3, .int (nI se), .ref qa_6, .ref qb_6, .int (nI (((0 + 1) + 1) + 1))])), (qa_6, .inl (E.2 2, 3, .inr (.inl (lA (updN (updN (updN (fun _ => 0) 0 (tA (U se * (bl * (qq + pp))) (V se * (2 * qq)))) (0 + 1) (tA (U se * ((2 * bl) * (qq + pp))) (V se * (2 * qq)))) ((0 + 1) + 1) (tA (U se * ((bl * (qq + pp)) - (2 * qq))) (V se * (2 * qq)))))))), (qb_6, .inl (E.2 2, 3, .inr (.inl (lA (updN (updN (updN (fun _ => 0) 0 (tB (U se * (bl * (qq + pp))) (V se * (2 * qq)))) (0 + 1) (tB (U se * ((2 * bl) * (qq + pp))) (V se * (2 * qq)))) ((0 + 1) + 1) (tB (U se * ((bl * (qq + pp)) - (2 * qq))) (V se * (2 * qq))))))))] H := hP
  have hD : va_D A [(h0, .inr (3, [.ref aa, .ref ab, .ref ao, .ref ag, .ref ar, .int sh, .int rg])), (aa, .inl (E.2 2, 4, .inr (.inl (lA U)))), (ab, .inl (E.2 2, 4, .inr (.inl (lA V)))), (q0, .inr (6, [.int 3, .int (nI se), .ref qa_6, .ref qb_6, .int (nI (((0 + 1) + 1) + 1))])), (qa_6, .inl (E.2 2, 3, .inr (.inl (lA (updN (updN (updN (fun _ => 0) 0 (tA (U se * (bl * (qq + pp))) (V se * (2 * qq)))) (0 + 1) (tA (U se * ((2 * bl) * (qq + pp))) (V se * (2 * qq)))) ((0 + 1) + 1) (tA (U se * ((bl * (qq + pp)) - (2 * qq))) (V se * (2 * qq)))))))), (qb_6, .inl (E.2 2, 3, .inr (.inl (lA (updN (updN (updN (fun _ => 0) 0 (tB (U se * (bl * (qq + pp))) (V se * (2 * qq)))) (0 + 1) (tB (U se * ((2 * bl) * (qq + pp))) (V se * (2 * qq)))) ((0 + 1) + 1) (tB (U se * ((bl * (qq + pp)) - (2 * qq))) (V se * (2 * qq))))))))] := hD
  refine lv_aload hx hb dX3_innerPart_66 (lv_at hl 0 rfl) ?_
  have e9 : ([(h0, .inr (3, [.ref aa, .ref ab, .ref ao, .ref ag, .ref ar, .int sh, .int rg])), (aa, .inl (E.2 2, 4, .inr (.inl (lA U)))), (ab, .inl (E.2 2, 4, .inr (.inl (lA V)))), (q0, .inr (6, [.int 3, .int (nI se), .ref qa_6, .ref qb_6, .int (nI 3)])), (qa_6, .inl (E.2 2, 3, .inr (.inl (lA (t3 (tA (U se * (bl * (qq + pp))) (V se * (2 * qq))) (tA (U se * (2 * bl * (qq + pp))) (V se * (2 * qq))) (tA (U se * (bl * (qq + pp) - 2 * qq)) (V se * (2 * qq)))))))), (qb_6, .inl (E.2 2, 3, .inr (.inl (lA (t3 (tB (U se * (bl * (qq + pp))) (V se * (2 * qq))) (tB (U se * (2 * bl * (qq + pp))) (V se * (2 * qq))) (tB (U se * (bl * (qq + pp) - 2 * qq)) (V se * (2 * qq))))))))] : va_W) = [(h0, .inr (3, [.ref aa, .ref ab, .ref ao, .ref ag, .ref ar, .int sh, .int rg])), (aa, .inl (E.2 2, 4, .inr (.inl (lA U)))), (ab, .inl (E.2 2, 4, .inr (.inl (lA V)))), (q0, .inr (6, [.int 3, .int (nI se), .ref qa_6, .ref qb_6, .int (nI (((0 + 1) + 1) + 1))])), (qa_6, .inl (E.2 2, 3, .inr (.inl (lA (updN (updN (updN (fun _ => 0) 0 (tA (U se * (bl * (qq + pp))) (V se * (2 * qq)))) (0 + 1) (tA (U se * ((2 * bl) * (qq + pp))) (V se * (2 * qq)))) ((0 + 1) + 1) (tA (U se * ((bl * (qq + pp)) - (2 * qq))) (V se * (2 * qq)))))))), (qb_6, .inl (E.2 2, 3, .inr (.inl (lA (updN (updN (updN (fun _ => 0) 0 (tB (U se * (bl * (qq + pp))) (V se * (2 * qq)))) (0 + 1) (tB (U se * ((2 * bl) * (qq + pp))) (V se * (2 * qq)))) ((0 + 1) + 1) (tB (U se * ((bl * (qq + pp)) - (2 * qq))) (V se * (2 * qq))))))))] := by rfl
  have hP9 : va_P E.1 vwCl [(h0, .inr (3, [.ref aa, .ref ab, .ref ao, .ref ag, .ref ar, .int sh, .int rg])), (aa, .inl (E.2 2, 4, .inr (.inl (lA U)))), (ab, .inl (E.2 2, 4, .inr (.inl (lA V)))), (q0, .inr (6, [.int 3, .int (nI se), .ref qa_6, .ref qb_6, .int (nI 3)])), (qa_6, .inl (E.2 2, 3, .inr (.inl (lA (t3 (tA (U se * (bl * (qq + pp))) (V se * (2 * qq))) (tA (U se * (2 * bl * (qq + pp))) (V se * (2 * qq))) (tA (U se * (bl * (qq + pp) - 2 * qq)) (V se * (2 * qq)))))))), (qb_6, .inl (E.2 2, 3, .inr (.inl (lA (t3 (tB (U se * (bl * (qq + pp))) (V se * (2 * qq))) (tB (U se * (2 * bl * (qq + pp))) (V se * (2 * qq))) (tB (U se * (bl * (qq + pp) - 2 * qq)) (V se * (2 * qq))))))))] H := by rw [e9]; exact hP.sub [0, 1, 2, 3, 4, 5] rfl
  have hD9 : va_D A [(h0, .inr (3, [.ref aa, .ref ab, .ref ao, .ref ag, .ref ar, .int sh, .int rg])), (aa, .inl (E.2 2, 4, .inr (.inl (lA U)))), (ab, .inl (E.2 2, 4, .inr (.inl (lA V)))), (q0, .inr (6, [.int 3, .int (nI se), .ref qa_6, .ref qb_6, .int (nI 3)])), (qa_6, .inl (E.2 2, 3, .inr (.inl (lA (t3 (tA (U se * (bl * (qq + pp))) (V se * (2 * qq))) (tA (U se * (2 * bl * (qq + pp))) (V se * (2 * qq))) (tA (U se * (bl * (qq + pp) - 2 * qq)) (V se * (2 * qq)))))))), (qb_6, .inl (E.2 2, 3, .inr (.inl (lA (t3 (tB (U se * (bl * (qq + pp))) (V se * (2 * qq))) (tB (U se * (2 * bl * (qq + pp))) (V se * (2 * qq))) (tB (U se * (bl * (qq + pp) - 2 * qq)) (V se * (2 * qq))))))))] := by rw [e9]; exact hD.sub [0, 1, 2, 3, 4, 5] (by decide) rfl
  exact W.aret (v := .ref q0) hx hb hr (Or.inl ⟨_, rfl⟩) (Or.inr ⟨_, rfl⟩) (fun t9 ht9 hW9 => ⟨⟨(qa_6, qb_6), q0, rfl, trivial, ⟨by rw [ht9]; exact hP9, hD9⟩⟩, hS.F ht9⟩) hS.2.2 dX3_innerPart_68
set_option maxHeartbeats 1000000 in
set_option maxRecDepth 100000 in
theorem c_X3_cagePart (l : Launch) (E : EnvT) (sz : Nat) (h0 : Nat) (aa : Nat) (ab : Nat) (ao : Nat) (ag : Nat) (ar : Nat) (sh : Int32) (rg : Int32) (U : Nat → Nat) (V : Nat → Nat) (se : Nat) (pp : Nat) (qq : Nat) (hse : se < 4) (hU1 : 0 < U se) (hU2 : U se ≤ 8000000) (hV1 : 0 < V se) (hV2 : V se ≤ 8000000) (hp1 : 1 ≤ pp) (hpq : pp < qq) (hq2 : qq ≤ 100) : Met l yX3_cagePart wsX3_cagePart ({ frames := 4, cells := 3, slots := 11, locals := 102 }) (va_Pc [.ref h0, .int (nI se), .int (nI pp), .int (nI qq)] (PW E [(h0, .inr (3, [.ref aa, .ref ab, .ref ao, .ref ag, .ref ar, .int sh, .int rg])), (aa, .inl (E.2 2, 4, .inr (.inl (lA U)))), (ab, .inl (E.2 2, 4, .inr (.inl (lA V))))] sz)) (va_Qr (fun (uu : Nat × Nat) => True) (fun (uu : Nat × Nat) (ra : Nat) t => BW E (va_A [(h0, .inr (3, [.ref aa, .ref ab, .ref ao, .ref ag, .ref ar, .int sh, .int rg])), (aa, .inl (E.2 2, 4, .inr (.inl (lA U)))), (ab, .inl (E.2 2, 4, .inr (.inl (lA V))))] sz) [(h0, .inr (3, [.ref aa, .ref ab, .ref ao, .ref ag, .ref ar, .int sh, .int rg])), (aa, .inl (E.2 2, 4, .inr (.inl (lA U)))), (ab, .inl (E.2 2, 4, .inr (.inl (lA V)))), (ra, .inr (6, [.int 4, .int (nI se), .ref uu.1, .ref uu.2, .int (nI 1)])), (uu.1, .inl (E.2 2, 3, .inr (.inl (lA (t1 (tA (U se * (qq - pp)) (V se * (2 * qq)))))))), (uu.2, .inl (E.2 2, 3, .inr (.inl (lA (t1 (tB (U se * (qq - pp)) (V se * (2 * qq))))))))] t) (va_A [(h0, .inr (3, [.ref aa, .ref ab, .ref ao, .ref ag, .ref ar, .int sh, .int rg])), (aa, .inl (E.2 2, 4, .inr (.inl (lA U)))), (ab, .inl (E.2 2, 4, .inr (.inl (lA V))))] sz)) 3 11 (va_A [(h0, .inr (3, [.ref aa, .ref ab, .ref ao, .ref ag, .ref ar, .int sh, .int rg])), (aa, .inl (E.2 2, 4, .inr (.inl (lA U)))), (ab, .inl (E.2 2, 4, .inr (.inl (lA V))))] sz) := by
  refine Met.ofW (cc := cX3_cagePart) (maxL := 5) (ret := (some (.object "WornRings$Part"))) (by decide +kernel) rfl ?_
  intro p e s m args below meth c s₁ B hml hv
  obtain ⟨rfl, hsz, hP, hE, hD0⟩ := hv
  have hx := B.exec
  have hb := B.bytes
  have hr := B.returns
  have hts := atoms_spec (ws := wsX3_cagePart) B.pre
  have hown : s.vm.findClass RX3 = some m.cls := findClass_of_methodNamed B.named
  have hlocks := B.notSynchronized
  have hK := hE.1
  have hNN := hE.2.1
  have hinX6 : ∀ w ∈ wsX60, w ∈ wsX3_cagePart := fun w h => List.mem_cons_of_mem _ (List.mem_append_left _ (List.mem_append_right _ h))
  subst hsz
  have hD := hD0.self (sz := s.heap.size)
  generalize hAe : va_A [(h0, .inr (3, [.ref aa, .ref ab, .ref ao, .ref ag, .ref ar, .int sh, .int rg])), (aa, .inl (E.2 2, 4, .inr (.inl (lA U)))), (ab, .inl (E.2 2, 4, .inr (.inl (lA V))))] s.heap.size = A at hD ⊢
  have hA : ∀ q : Nat, s.heap.size ≤ q → A q := fun q h => by rw [← hAe]; exact Or.inr h
  have hS : va_S A s.heap s.heap [] := va_S.rf
  have hl := lv_entry ([.ref h0, .int (nI se), .int (nI pp), .int (nI qq)]) (n := 5) (Nat.le_of_ble_eq_true rfl)
  rw [lg_entry_eq]
  generalize (lg_sl ([.ref h0, .int (nI se), .int (nI pp), .int (nI qq)]) ++ List.replicate (5 - (lg_sl ([.ref h0, .int (nI se), .int (nI pp), .int (nI qq)])).length) Slot.unset).toArray = ls at hl ⊢
  have hl : lv_has ls 5 [(0, .ref h0), (1, .int (nI se)), (2, .int (nI pp)), (3, .int (nI qq))] := hl
  refine va_new (ci := 6) (fs := [.int 0, .int 0, .null, .null, .int 0]) (C := RX6) (T := TX6) (N := 5) hx hb hts hinX6 tyX6 tyX6_ok hown (hts (.classLink RX3 18 RX6) (by decide +kernel)) (hts (.instantiable RX6 5) (by decide +kernel)) (hts (.initialized RX6) (by decide +kernel)) hK hP hD hS hA rfl (by decide +kernel) (Nat.le_of_ble_eq_true rfl) (Nat.le_of_ble_eq_true rfl) dX3_cagePart_0 (fun q0 H hP hD hS => ?_)
  have hP : va_P E.1 vwCl [(h0, .inr (3, [.ref aa, .ref ab, .ref ao, .ref ag, .ref ar, .int sh, .int rg])), (aa, .inl (E.2 2, 4, .inr (.inl (lA U)))), (ab, .inl (E.2 2, 4, .inr (.inl (lA V)))), (q0, .inr (6, [.int 0, .int 0, .null, .null, .int 0]))] H := hP
  have hD : va_D A [(h0, .inr (3, [.ref aa, .ref ab, .ref ao, .ref ag, .ref ar, .int sh, .int rg])), (aa, .inl (E.2 2, 4, .inr (.inl (lA U)))), (ab, .inl (E.2 2, 4, .inr (.inl (lA V)))), (q0, .inr (6, [.int 0, .int 0, .null, .null, .int 0]))] := hD
  refine W.widen (k := 1) (n := 5) (by omega) (by omega) ?_
  refine lv_dup hx hb dX3_cagePart_3 rfl ?_
  refine lv_iconst (v := 4) hx hb dX3_cagePart_4 (by decide) ?_
  refine lv_iload_n hx hb dX3_cagePart_5 rfl (lv_at hl 1 rfl) ?_
  refine wIv (wr := [(h0, .inr (3, [.ref aa, .ref ab, .ref ao, .ref ag, .ref ar, .int sh, .int rg])), (aa, .inl (E.2 2, 4, .inr (.inl (lA U)))), (ab, .inl (E.2 2, 4, .inr (.inl (lA V))))]) hE ⟨hx, hb, hml, hown, hts⟩ (c_X6_init l E H.size q0 4 (nI se) ) (cwI 2 hts gX3_cagePart_X6_init rfl rfl rfl (hts (.initialized RX6) (by decide +kernel)) (hts (.methodLink RX3 77 yX6_init) (by decide +kernel)) (hts (.instanceMethod yX6_init) (by decide +kernel)) rfl (by decide +kernel) ⟨Nat.le_of_ble_eq_true rfl, Nat.le_of_ble_eq_true rfl⟩) hP hD hS hA [3] [0, 1, 2] rfl rfl (by decide) (by decide) (by decide) rfl hl.1 rfl (Nat.le_of_ble_eq_true rfl) dX3_cagePart_6 ⟨Nat.le_of_ble_eq_true rfl, Nat.le_of_ble_eq_true rfl⟩ (fun u H locs hw hP hD hS => ?_)
  obtain ⟨qa_6, qb_6⟩ := u
  refine W.widen (k := 3) (n := 11) (by omega) (by omega) ?_
  have hP : va_P E.1 vwCl [(h0, .inr (3, [.ref aa, .ref ab, .ref ao, .ref ag, .ref ar, .int sh, .int rg])), (aa, .inl (E.2 2, 4, .inr (.inl (lA U)))), (ab, .inl (E.2 2, 4, .inr (.inl (lA V)))), (q0, .inr (6, [.int 4, .int (nI se), .ref qa_6, .ref qb_6, .int 0])), (qa_6, .inl (E.2 2, 3, .inr (.inl (lA (fun _ => 0))))), (qb_6, .inl (E.2 2, 3, .inr (.inl (lA (fun _ => 0)))))] H := hP
  have hD : va_D A [(h0, .inr (3, [.ref aa, .ref ab, .ref ao, .ref ag, .ref ar, .int sh, .int rg])), (aa, .inl (E.2 2, 4, .inr (.inl (lA U)))), (ab, .inl (E.2 2, 4, .inr (.inl (lA V)))), (q0, .inr (6, [.int 4, .int (nI se), .ref qa_6, .ref qb_6, .int 0])), (qa_6, .inl (E.2 2, 3, .inr (.inl (lA (fun _ => 0))))), (qb_6, .inl (E.2 2, 3, .inr (.inl (lA (fun _ => 0)))))] := hD
  refine lv_astore (lv' := [(4, .ref q0), (0, .ref h0), (1, .int (nI se)), (2, .int (nI pp)), (3, .int (nI qq))]) hx hb dX3_cagePart_9 hl (by decide) rfl (fun ls hl => ?_)
  refine lv_aload_n hx hb dX3_cagePart_11 rfl (lv_at hl 1 rfl) ?_
  refine lv_aload hx hb dX3_cagePart_12 (lv_at hl 0 rfl) ?_
  refine lv_iload_n hx hb dX3_cagePart_14 rfl (lv_at hl 4 rfl) ?_
  refine lv_iload_n hx hb dX3_cagePart_15 rfl (lv_at hl 3 rfl) ?_
  refine lv_isub hx hb dX3_cagePart_16 ?_
  rw [show ((nI qq) - (nI pp) : Int32) = nI (qq - pp) from pk_sub (a := qq) (b := pp) (by omega)]
  refine lv_iconst (v := 2) hx hb dX3_cagePart_17 (by decide) ?_
  refine lv_iload_n hx hb dX3_cagePart_18 rfl (lv_at hl 4 rfl) ?_
  refine lv_imul hx hb dX3_cagePart_19 ?_
  rw [show ((2 : Int32) * (nI qq) : Int32) = nI (2 * qq) from pk_mul 2 qq]
  refine wVv (wr := []) hE ⟨hx, hb, hml, hown, hts⟩ (c_X3_addMultiple l E H.size h0 aa ab ao ag ar sh rg U V q0 4 se qa_6 qb_6 0 (fun _ => 0) (fun _ => 0) (qq - pp) (2 * qq) (by omega) (hse) (hU1) (hU2) (hV1) (hV2) (by omega) (by omega) (by omega) (by omega)) (cwV 3 hts gX3_cagePart_X3_addMultiple rfl rfl rfl (by decide +kernel) ⟨Nat.le_of_ble_eq_true rfl, Nat.le_of_ble_eq_true rfl⟩) hP hD hS hA [0, 1, 2, 3, 4, 5] [] rfl rfl (by decide) (by decide) (by decide) 0 3 rfl rfl rfl hl.1 rfl (Nat.le_of_ble_eq_true rfl) dX3_cagePart_20 ⟨Nat.le_of_ble_eq_true rfl, Nat.le_of_ble_eq_true rfl⟩ (fun u H locs hw hP hD hS => ?_)
  refine W.widen (k := 3) (n := 11) (by omega) (by omega) ?_
  have hP : va_P E.1 vwCl [(h0, .inr (3, [.ref aa, .ref ab, .ref ao, .ref ag, .ref ar, .int sh, .int rg])), (aa, .inl (E.2 2, 4, .inr (.inl (lA U)))), (ab, .inl (E.2 2, 4, .inr (.inl (lA V)))), (q0, .inr (6, [.int 4, .int (nI se), .ref qa_6, .ref qb_6, .int (nI (0 + 1))])), (qa_6, .inl (E.2 2, 3, .inr (.inl (lA (updN (fun _ => 0) 0 (tA (U se * (qq - pp)) (V se * (2 * qq)))))))), (qb_6, .inl (E.2 2, 3, .inr (.inl (lA (updN (fun _ => 0) 0 (tB (U se * (qq - pp)) (V se * (2 * qq))))))))] H := hP
  have hD : va_D A [(h0, .inr (3, [.ref aa, .ref ab, .ref ao, .ref ag, .ref ar, .int sh, .int rg])), (aa, .inl (E.2 2, 4, .inr (.inl (lA U)))), (ab, .inl (E.2 2, 4, .inr (.inl (lA V)))), (q0, .inr (6, [.int 4, .int (nI se), .ref qa_6, .ref qb_6, .int (nI (0 + 1))])), (qa_6, .inl (E.2 2, 3, .inr (.inl (lA (updN (fun _ => 0) 0 (tA (U se * (qq - pp)) (V se * (2 * qq)))))))), (qb_6, .inl (E.2 2, 3, .inr (.inl (lA (updN (fun _ => 0) 0 (tB (U se * (qq - pp)) (V se * (2 * qq))))))))] := hD
  refine lv_aload hx hb dX3_cagePart_23 (lv_at hl 0 rfl) ?_
  have e9 : ([(h0, .inr (3, [.ref aa, .ref ab, .ref ao, .ref ag, .ref ar, .int sh, .int rg])), (aa, .inl (E.2 2, 4, .inr (.inl (lA U)))), (ab, .inl (E.2 2, 4, .inr (.inl (lA V)))), (q0, .inr (6, [.int 4, .int (nI se), .ref qa_6, .ref qb_6, .int (nI 1)])), (qa_6, .inl (E.2 2, 3, .inr (.inl (lA (t1 (tA (U se * (qq - pp)) (V se * (2 * qq)))))))), (qb_6, .inl (E.2 2, 3, .inr (.inl (lA (t1 (tB (U se * (qq - pp)) (V se * (2 * qq))))))))] : va_W) = [(h0, .inr (3, [.ref aa, .ref ab, .ref ao, .ref ag, .ref ar, .int sh, .int rg])), (aa, .inl (E.2 2, 4, .inr (.inl (lA U)))), (ab, .inl (E.2 2, 4, .inr (.inl (lA V)))), (q0, .inr (6, [.int 4, .int (nI se), .ref qa_6, .ref qb_6, .int (nI (0 + 1))])), (qa_6, .inl (E.2 2, 3, .inr (.inl (lA (updN (fun _ => 0) 0 (tA (U se * (qq - pp)) (V se * (2 * qq)))))))), (qb_6, .inl (E.2 2, 3, .inr (.inl (lA (updN (fun _ => 0) 0 (tB (U se * (qq - pp)) (V se * (2 * qq))))))))] := by rfl
  have hP9 : va_P E.1 vwCl [(h0, .inr (3, [.ref aa, .ref ab, .ref ao, .ref ag, .ref ar, .int sh, .int rg])), (aa, .inl (E.2 2, 4, .inr (.inl (lA U)))), (ab, .inl (E.2 2, 4, .inr (.inl (lA V)))), (q0, .inr (6, [.int 4, .int (nI se), .ref qa_6, .ref qb_6, .int (nI 1)])), (qa_6, .inl (E.2 2, 3, .inr (.inl (lA (t1 (tA (U se * (qq - pp)) (V se * (2 * qq)))))))), (qb_6, .inl (E.2 2, 3, .inr (.inl (lA (t1 (tB (U se * (qq - pp)) (V se * (2 * qq))))))))] H := by rw [e9]; exact hP.sub [0, 1, 2, 3, 4, 5] rfl
  have hD9 : va_D A [(h0, .inr (3, [.ref aa, .ref ab, .ref ao, .ref ag, .ref ar, .int sh, .int rg])), (aa, .inl (E.2 2, 4, .inr (.inl (lA U)))), (ab, .inl (E.2 2, 4, .inr (.inl (lA V)))), (q0, .inr (6, [.int 4, .int (nI se), .ref qa_6, .ref qb_6, .int (nI 1)])), (qa_6, .inl (E.2 2, 3, .inr (.inl (lA (t1 (tA (U se * (qq - pp)) (V se * (2 * qq)))))))), (qb_6, .inl (E.2 2, 3, .inr (.inl (lA (t1 (tB (U se * (qq - pp)) (V se * (2 * qq))))))))] := by rw [e9]; exact hD.sub [0, 1, 2, 3, 4, 5] (by decide) rfl
  exact W.aret (v := .ref q0) hx hb hr (Or.inl ⟨_, rfl⟩) (Or.inr ⟨_, rfl⟩) (fun t9 ht9 hW9 => ⟨⟨(qa_6, qb_6), q0, rfl, trivial, ⟨by rw [ht9]; exact hP9, hD9⟩⟩, hS.F ht9⟩) hS.2.2 dX3_cagePart_25
set_option maxHeartbeats 1000000 in
set_option maxRecDepth 100000 in
theorem c_X3_ballsPart (l : Launch) (E : EnvT) (sz : Nat) (h0 : Nat) (aa : Nat) (ab : Nat) (ao : Nat) (ag : Nat) (ar : Nat) (sh : Int32) (rg : Int32) (U : Nat → Nat) (V : Nat → Nat) (se : Nat) (pp : Nat) (qq : Nat) (hse : se < 4) (hU1 : 0 < U se) (hU2 : U se ≤ 8000000) (hV1 : 0 < V se) (hV2 : V se ≤ 8000000) (hp1 : 1 ≤ pp) (hpq : pp < qq) (hq2 : qq ≤ 100) : Met l yX3_ballsPart wsX3_ballsPart ({ frames := 4, cells := 3, slots := 11, locals := 102 }) (va_Pc [.ref h0, .int (nI se), .int (nI pp), .int (nI qq)] (PW E [(h0, .inr (3, [.ref aa, .ref ab, .ref ao, .ref ag, .ref ar, .int sh, .int rg])), (aa, .inl (E.2 2, 4, .inr (.inl (lA U)))), (ab, .inl (E.2 2, 4, .inr (.inl (lA V))))] sz)) (va_Qr (fun (uu : Nat × Nat) => True) (fun (uu : Nat × Nat) (ra : Nat) t => BW E (va_A [(h0, .inr (3, [.ref aa, .ref ab, .ref ao, .ref ag, .ref ar, .int sh, .int rg])), (aa, .inl (E.2 2, 4, .inr (.inl (lA U)))), (ab, .inl (E.2 2, 4, .inr (.inl (lA V))))] sz) [(h0, .inr (3, [.ref aa, .ref ab, .ref ao, .ref ag, .ref ar, .int sh, .int rg])), (aa, .inl (E.2 2, 4, .inr (.inl (lA U)))), (ab, .inl (E.2 2, 4, .inr (.inl (lA V)))), (ra, .inr (6, [.int 5, .int (nI se), .ref uu.1, .ref uu.2, .int (nI 2)])), (uu.1, .inl (E.2 2, 3, .inr (.inl (lA (t2 (tA (U se * (qq * qq - pp * pp)) (V se * (2 * pp * qq))) (tA (U se * (2 * (qq * qq - pp * pp))) (V se * (2 * pp * qq)))))))), (uu.2, .inl (E.2 2, 3, .inr (.inl (lA (t2 (tB (U se * (qq * qq - pp * pp)) (V se * (2 * pp * qq))) (tB (U se * (2 * (qq * qq - pp * pp))) (V se * (2 * pp * qq))))))))] t) (va_A [(h0, .inr (3, [.ref aa, .ref ab, .ref ao, .ref ag, .ref ar, .int sh, .int rg])), (aa, .inl (E.2 2, 4, .inr (.inl (lA U)))), (ab, .inl (E.2 2, 4, .inr (.inl (lA V))))] sz)) 3 11 (va_A [(h0, .inr (3, [.ref aa, .ref ab, .ref ao, .ref ag, .ref ar, .int sh, .int rg])), (aa, .inl (E.2 2, 4, .inr (.inl (lA U)))), (ab, .inl (E.2 2, 4, .inr (.inl (lA V))))] sz) := by
  refine Met.ofW (cc := cX3_ballsPart) (maxL := 5) (ret := (some (.object "WornRings$Part"))) (by decide +kernel) rfl ?_
  intro p e s m args below meth c s₁ B hml hv
  obtain ⟨rfl, hsz, hP, hE, hD0⟩ := hv
  have hx := B.exec
  have hb := B.bytes
  have hr := B.returns
  have hts := atoms_spec (ws := wsX3_ballsPart) B.pre
  have hown : s.vm.findClass RX3 = some m.cls := findClass_of_methodNamed B.named
  have hlocks := B.notSynchronized
  have hK := hE.1
  have hNN := hE.2.1
  have hinX6 : ∀ w ∈ wsX60, w ∈ wsX3_ballsPart := fun w h => List.mem_cons_of_mem _ (List.mem_append_left _ (List.mem_append_right _ h))
  subst hsz
  have hD := hD0.self (sz := s.heap.size)
  generalize hAe : va_A [(h0, .inr (3, [.ref aa, .ref ab, .ref ao, .ref ag, .ref ar, .int sh, .int rg])), (aa, .inl (E.2 2, 4, .inr (.inl (lA U)))), (ab, .inl (E.2 2, 4, .inr (.inl (lA V))))] s.heap.size = A at hD ⊢
  have hA : ∀ q : Nat, s.heap.size ≤ q → A q := fun q h => by rw [← hAe]; exact Or.inr h
  have hS : va_S A s.heap s.heap [] := va_S.rf
  have hl := lv_entry ([.ref h0, .int (nI se), .int (nI pp), .int (nI qq)]) (n := 5) (Nat.le_of_ble_eq_true rfl)
  rw [lg_entry_eq]
  generalize (lg_sl ([.ref h0, .int (nI se), .int (nI pp), .int (nI qq)]) ++ List.replicate (5 - (lg_sl ([.ref h0, .int (nI se), .int (nI pp), .int (nI qq)])).length) Slot.unset).toArray = ls at hl ⊢
  have hl : lv_has ls 5 [(0, .ref h0), (1, .int (nI se)), (2, .int (nI pp)), (3, .int (nI qq))] := hl
  have g0 : pp * pp < qq * qq := Nat.lt_of_le_of_lt (Nat.mul_le_mul_left pp (Nat.le_of_lt hpq)) (Nat.mul_lt_mul_of_pos_right hpq (by omega))
  have g1 : qq * qq ≤ 100 * 100 := Nat.mul_le_mul hq2 hq2
  have g3 : 0 < 2 * pp * qq := Nat.mul_pos (by omega) (by omega)
  have g4 : 2 * pp * qq ≤ 200 * 100 := Nat.mul_le_mul (by omega) hq2
  refine va_new (ci := 6) (fs := [.int 0, .int 0, .null, .null, .int 0]) (C := RX6) (T := TX6) (N := 5) hx hb hts hinX6 tyX6 tyX6_ok hown (hts (.classLink RX3 18 RX6) (by decide +kernel)) (hts (.instantiable RX6 5) (by decide +kernel)) (hts (.initialized RX6) (by decide +kernel)) hK hP hD hS hA rfl (by decide +kernel) (Nat.le_of_ble_eq_true rfl) (Nat.le_of_ble_eq_true rfl) dX3_ballsPart_0 (fun q0 H hP hD hS => ?_)
  have hP : va_P E.1 vwCl [(h0, .inr (3, [.ref aa, .ref ab, .ref ao, .ref ag, .ref ar, .int sh, .int rg])), (aa, .inl (E.2 2, 4, .inr (.inl (lA U)))), (ab, .inl (E.2 2, 4, .inr (.inl (lA V)))), (q0, .inr (6, [.int 0, .int 0, .null, .null, .int 0]))] H := hP
  have hD : va_D A [(h0, .inr (3, [.ref aa, .ref ab, .ref ao, .ref ag, .ref ar, .int sh, .int rg])), (aa, .inl (E.2 2, 4, .inr (.inl (lA U)))), (ab, .inl (E.2 2, 4, .inr (.inl (lA V)))), (q0, .inr (6, [.int 0, .int 0, .null, .null, .int 0]))] := hD
  refine W.widen (k := 1) (n := 5) (by omega) (by omega) ?_
  refine lv_dup hx hb dX3_ballsPart_3 rfl ?_
  refine lv_iconst (v := 5) hx hb dX3_ballsPart_4 (by decide) ?_
  refine lv_iload_n hx hb dX3_ballsPart_5 rfl (lv_at hl 1 rfl) ?_
  refine wIv (wr := [(h0, .inr (3, [.ref aa, .ref ab, .ref ao, .ref ag, .ref ar, .int sh, .int rg])), (aa, .inl (E.2 2, 4, .inr (.inl (lA U)))), (ab, .inl (E.2 2, 4, .inr (.inl (lA V))))]) hE ⟨hx, hb, hml, hown, hts⟩ (c_X6_init l E H.size q0 5 (nI se) ) (cwI 2 hts gX3_ballsPart_X6_init rfl rfl rfl (hts (.initialized RX6) (by decide +kernel)) (hts (.methodLink RX3 77 yX6_init) (by decide +kernel)) (hts (.instanceMethod yX6_init) (by decide +kernel)) rfl (by decide +kernel) ⟨Nat.le_of_ble_eq_true rfl, Nat.le_of_ble_eq_true rfl⟩) hP hD hS hA [3] [0, 1, 2] rfl rfl (by decide) (by decide) (by decide) rfl hl.1 rfl (Nat.le_of_ble_eq_true rfl) dX3_ballsPart_6 ⟨Nat.le_of_ble_eq_true rfl, Nat.le_of_ble_eq_true rfl⟩ (fun u H locs hw hP hD hS => ?_)
  obtain ⟨qa_6, qb_6⟩ := u
  refine W.widen (k := 3) (n := 11) (by omega) (by omega) ?_
  have hP : va_P E.1 vwCl [(h0, .inr (3, [.ref aa, .ref ab, .ref ao, .ref ag, .ref ar, .int sh, .int rg])), (aa, .inl (E.2 2, 4, .inr (.inl (lA U)))), (ab, .inl (E.2 2, 4, .inr (.inl (lA V)))), (q0, .inr (6, [.int 5, .int (nI se), .ref qa_6, .ref qb_6, .int 0])), (qa_6, .inl (E.2 2, 3, .inr (.inl (lA (fun _ => 0))))), (qb_6, .inl (E.2 2, 3, .inr (.inl (lA (fun _ => 0)))))] H := hP
  have hD : va_D A [(h0, .inr (3, [.ref aa, .ref ab, .ref ao, .ref ag, .ref ar, .int sh, .int rg])), (aa, .inl (E.2 2, 4, .inr (.inl (lA U)))), (ab, .inl (E.2 2, 4, .inr (.inl (lA V)))), (q0, .inr (6, [.int 5, .int (nI se), .ref qa_6, .ref qb_6, .int 0])), (qa_6, .inl (E.2 2, 3, .inr (.inl (lA (fun _ => 0))))), (qb_6, .inl (E.2 2, 3, .inr (.inl (lA (fun _ => 0)))))] := hD
  refine lv_astore (lv' := [(4, .ref q0), (0, .ref h0), (1, .int (nI se)), (2, .int (nI pp)), (3, .int (nI qq))]) hx hb dX3_ballsPart_9 hl (by decide) rfl (fun ls hl => ?_)
  refine lv_aload_n hx hb dX3_ballsPart_11 rfl (lv_at hl 1 rfl) ?_
  refine lv_aload hx hb dX3_ballsPart_12 (lv_at hl 0 rfl) ?_
  refine lv_iload_n hx hb dX3_ballsPart_14 rfl (lv_at hl 4 rfl) ?_
  refine lv_iload_n hx hb dX3_ballsPart_15 rfl (lv_at hl 4 rfl) ?_
  refine lv_imul hx hb dX3_ballsPart_16 ?_
  rw [show ((nI qq) * (nI qq) : Int32) = nI (qq * qq) from pk_mul qq qq]
  refine lv_iload_n hx hb dX3_ballsPart_17 rfl (lv_at hl 3 rfl) ?_
  refine lv_iload_n hx hb dX3_ballsPart_18 rfl (lv_at hl 3 rfl) ?_
  refine lv_imul hx hb dX3_ballsPart_19 ?_
  rw [show ((nI pp) * (nI pp) : Int32) = nI (pp * pp) from pk_mul pp pp]
  refine lv_isub hx hb dX3_ballsPart_20 ?_
  rw [show ((nI (qq * qq)) - (nI (pp * pp)) : Int32) = nI ((qq * qq) - (pp * pp)) from pk_sub (a := (qq * qq)) (b := (pp * pp)) (by omega)]
  refine lv_iconst (v := 2) hx hb dX3_ballsPart_21 (by decide) ?_
  refine lv_iload_n hx hb dX3_ballsPart_22 rfl (lv_at hl 3 rfl) ?_
  refine lv_imul hx hb dX3_ballsPart_23 ?_
  rw [show ((2 : Int32) * (nI pp) : Int32) = nI (2 * pp) from pk_mul 2 pp]
  refine lv_iload_n hx hb dX3_ballsPart_24 rfl (lv_at hl 4 rfl) ?_
  refine lv_imul hx hb dX3_ballsPart_25 ?_
  rw [show ((nI (2 * pp)) * (nI qq) : Int32) = nI ((2 * pp) * qq) from pk_mul (2 * pp) qq]
  refine wVv (wr := []) hE ⟨hx, hb, hml, hown, hts⟩ (c_X3_addMultiple l E H.size h0 aa ab ao ag ar sh rg U V q0 5 se qa_6 qb_6 0 (fun _ => 0) (fun _ => 0) ((qq * qq) - (pp * pp)) ((2 * pp) * qq) (by omega) (hse) (hU1) (hU2) (hV1) (hV2) (by omega) (by omega) (by omega) (by omega)) (cwV 3 hts gX3_ballsPart_X3_addMultiple rfl rfl rfl (by decide +kernel) ⟨Nat.le_of_ble_eq_true rfl, Nat.le_of_ble_eq_true rfl⟩) hP hD hS hA [0, 1, 2, 3, 4, 5] [] rfl rfl (by decide) (by decide) (by decide) 0 3 rfl rfl rfl hl.1 rfl (Nat.le_of_ble_eq_true rfl) dX3_ballsPart_26 ⟨Nat.le_of_ble_eq_true rfl, Nat.le_of_ble_eq_true rfl⟩ (fun u H locs hw hP hD hS => ?_)
  refine W.widen (k := 3) (n := 11) (by omega) (by omega) ?_
  have hP : va_P E.1 vwCl [(h0, .inr (3, [.ref aa, .ref ab, .ref ao, .ref ag, .ref ar, .int sh, .int rg])), (aa, .inl (E.2 2, 4, .inr (.inl (lA U)))), (ab, .inl (E.2 2, 4, .inr (.inl (lA V)))), (q0, .inr (6, [.int 5, .int (nI se), .ref qa_6, .ref qb_6, .int (nI (0 + 1))])), (qa_6, .inl (E.2 2, 3, .inr (.inl (lA (updN (fun _ => 0) 0 (tA (U se * ((qq * qq) - (pp * pp))) (V se * ((2 * pp) * qq)))))))), (qb_6, .inl (E.2 2, 3, .inr (.inl (lA (updN (fun _ => 0) 0 (tB (U se * ((qq * qq) - (pp * pp))) (V se * ((2 * pp) * qq))))))))] H := hP
  have hD : va_D A [(h0, .inr (3, [.ref aa, .ref ab, .ref ao, .ref ag, .ref ar, .int sh, .int rg])), (aa, .inl (E.2 2, 4, .inr (.inl (lA U)))), (ab, .inl (E.2 2, 4, .inr (.inl (lA V)))), (q0, .inr (6, [.int 5, .int (nI se), .ref qa_6, .ref qb_6, .int (nI (0 + 1))])), (qa_6, .inl (E.2 2, 3, .inr (.inl (lA (updN (fun _ => 0) 0 (tA (U se * ((qq * qq) - (pp * pp))) (V se * ((2 * pp) * qq)))))))), (qb_6, .inl (E.2 2, 3, .inr (.inl (lA (updN (fun _ => 0) 0 (tB (U se * ((qq * qq) - (pp * pp))) (V se * ((2 * pp) * qq))))))))] := hD
  refine lv_aload_n hx hb dX3_ballsPart_29 rfl (lv_at hl 1 rfl) ?_
  refine lv_aload hx hb dX3_ballsPart_30 (lv_at hl 0 rfl) ?_
  refine lv_iconst (v := 2) hx hb dX3_ballsPart_32 (by decide) ?_
  refine lv_iload_n hx hb dX3_ballsPart_33 rfl (lv_at hl 4 rfl) ?_
  refine lv_iload_n hx hb dX3_ballsPart_34 rfl (lv_at hl 4 rfl) ?_
  refine lv_imul hx hb dX3_ballsPart_35 ?_
  rw [show ((nI qq) * (nI qq) : Int32) = nI (qq * qq) from pk_mul qq qq]
  refine lv_iload_n hx hb dX3_ballsPart_36 rfl (lv_at hl 3 rfl) ?_
  refine lv_iload_n hx hb dX3_ballsPart_37 rfl (lv_at hl 3 rfl) ?_
  refine lv_imul hx hb dX3_ballsPart_38 ?_
  rw [show ((nI pp) * (nI pp) : Int32) = nI (pp * pp) from pk_mul pp pp]
  refine lv_isub hx hb dX3_ballsPart_39 ?_
  rw [show ((nI (qq * qq)) - (nI (pp * pp)) : Int32) = nI ((qq * qq) - (pp * pp)) from pk_sub (a := (qq * qq)) (b := (pp * pp)) (by omega)]
  refine lv_imul hx hb dX3_ballsPart_40 ?_
  rw [show ((2 : Int32) * (nI ((qq * qq) - (pp * pp))) : Int32) = nI (2 * ((qq * qq) - (pp * pp))) from pk_mul 2 ((qq * qq) - (pp * pp))]
  refine lv_iconst (v := 2) hx hb dX3_ballsPart_41 (by decide) ?_
  refine lv_iload_n hx hb dX3_ballsPart_42 rfl (lv_at hl 3 rfl) ?_
  refine lv_imul hx hb dX3_ballsPart_43 ?_
  rw [show ((2 : Int32) * (nI pp) : Int32) = nI (2 * pp) from pk_mul 2 pp]
  refine lv_iload_n hx hb dX3_ballsPart_44 rfl (lv_at hl 4 rfl) ?_
  refine lv_imul hx hb dX3_ballsPart_45 ?_
  rw [show ((nI (2 * pp)) * (nI qq) : Int32) = nI ((2 * pp) * qq) from pk_mul (2 * pp) qq]
  refine wVv (wr := []) hE ⟨hx, hb, hml, hown, hts⟩ (c_X3_addMultiple l E H.size h0 aa ab ao ag ar sh rg U V q0 5 se qa_6 qb_6 (0 + 1) (updN (fun _ => 0) 0 (tA (U se * ((qq * qq) - (pp * pp))) (V se * ((2 * pp) * qq)))) (updN (fun _ => 0) 0 (tB (U se * ((qq * qq) - (pp * pp))) (V se * ((2 * pp) * qq)))) (2 * ((qq * qq) - (pp * pp))) ((2 * pp) * qq) (by omega) (hse) (hU1) (hU2) (hV1) (hV2) (by omega) (by omega) (by omega) (by omega)) (cwV 3 hts gX3_ballsPart_X3_addMultiple rfl rfl rfl (by decide +kernel) ⟨Nat.le_of_ble_eq_true rfl, Nat.le_of_ble_eq_true rfl⟩) hP hD hS hA [0, 1, 2, 3, 4, 5] [] rfl rfl (by decide) (by decide) (by decide) 0 3 rfl rfl rfl hl.1 rfl (Nat.le_of_ble_eq_true rfl) dX3_ballsPart_46 ⟨Nat.le_of_ble_eq_true rfl, Nat.le_of_ble_eq_true rfl⟩ (fun u H locs hw hP hD hS => ?_)
  refine W.widen (k := 3) (n := 11) (by omega) (by omega) ?_
  have hP : va_P E.1 vwCl [(h0, .inr (3, [.ref aa, .ref ab, .ref ao, .ref ag, .ref ar, .int sh, .int rg])), (aa, .inl (E.2 2, 4, .inr (.inl (lA U)))), (ab, .inl (E.2 2, 4, .inr (.inl (lA V)))), (q0, .inr (6, [.int 5, .int (nI se), .ref qa_6, .ref qb_6, .int (nI ((0 + 1) + 1))])), (qa_6, .inl (E.2 2, 3, .inr (.inl (lA (updN (updN (fun _ => 0) 0 (tA (U se * ((qq * qq) - (pp * pp))) (V se * ((2 * pp) * qq)))) (0 + 1) (tA (U se * (2 * ((qq * qq) - (pp * pp)))) (V se * ((2 * pp) * qq)))))))), (qb_6, .inl (E.2 2, 3, .inr (.inl (lA (updN (updN (fun _ => 0) 0 (tB (U se * ((qq * qq) - (pp * pp))) (V se * ((2 * pp) * qq)))) (0 + 1) (tB (U se * (2 * ((qq * qq) - (pp * pp)))) (V se * ((2 * pp) * qq))))))))] H := hP
  have hD : va_D A [(h0, .inr (3, [.ref aa, .ref ab, .ref ao, .ref ag, .ref ar, .int sh, .int rg])), (aa, .inl (E.2 2, 4, .inr (.inl (lA U)))), (ab, .inl (E.2 2, 4, .inr (.inl (lA V)))), (q0, .inr (6, [.int 5, .int (nI se), .ref qa_6, .ref qb_6, .int (nI ((0 + 1) + 1))])), (qa_6, .inl (E.2 2, 3, .inr (.inl (lA (updN (updN (fun _ => 0) 0 (tA (U se * ((qq * qq) - (pp * pp))) (V se * ((2 * pp) * qq)))) (0 + 1) (tA (U se * (2 * ((qq * qq) - (pp * pp)))) (V se * ((2 * pp) * qq)))))))), (qb_6, .inl (E.2 2, 3, .inr (.inl (lA (updN (updN (fun _ => 0) 0 (tB (U se * ((qq * qq) - (pp * pp))) (V se * ((2 * pp) * qq)))) (0 + 1) (tB (U se * (2 * ((qq * qq) - (pp * pp)))) (V se * ((2 * pp) * qq))))))))] := hD
  refine lv_aload hx hb dX3_ballsPart_49 (lv_at hl 0 rfl) ?_
  have e9 : ([(h0, .inr (3, [.ref aa, .ref ab, .ref ao, .ref ag, .ref ar, .int sh, .int rg])), (aa, .inl (E.2 2, 4, .inr (.inl (lA U)))), (ab, .inl (E.2 2, 4, .inr (.inl (lA V)))), (q0, .inr (6, [.int 5, .int (nI se), .ref qa_6, .ref qb_6, .int (nI 2)])), (qa_6, .inl (E.2 2, 3, .inr (.inl (lA (t2 (tA (U se * (qq * qq - pp * pp)) (V se * (2 * pp * qq))) (tA (U se * (2 * (qq * qq - pp * pp))) (V se * (2 * pp * qq)))))))), (qb_6, .inl (E.2 2, 3, .inr (.inl (lA (t2 (tB (U se * (qq * qq - pp * pp)) (V se * (2 * pp * qq))) (tB (U se * (2 * (qq * qq - pp * pp))) (V se * (2 * pp * qq))))))))] : va_W) = [(h0, .inr (3, [.ref aa, .ref ab, .ref ao, .ref ag, .ref ar, .int sh, .int rg])), (aa, .inl (E.2 2, 4, .inr (.inl (lA U)))), (ab, .inl (E.2 2, 4, .inr (.inl (lA V)))), (q0, .inr (6, [.int 5, .int (nI se), .ref qa_6, .ref qb_6, .int (nI ((0 + 1) + 1))])), (qa_6, .inl (E.2 2, 3, .inr (.inl (lA (updN (updN (fun _ => 0) 0 (tA (U se * ((qq * qq) - (pp * pp))) (V se * ((2 * pp) * qq)))) (0 + 1) (tA (U se * (2 * ((qq * qq) - (pp * pp)))) (V se * ((2 * pp) * qq)))))))), (qb_6, .inl (E.2 2, 3, .inr (.inl (lA (updN (updN (fun _ => 0) 0 (tB (U se * ((qq * qq) - (pp * pp))) (V se * ((2 * pp) * qq)))) (0 + 1) (tB (U se * (2 * ((qq * qq) - (pp * pp)))) (V se * ((2 * pp) * qq))))))))] := by rfl
  have hP9 : va_P E.1 vwCl [(h0, .inr (3, [.ref aa, .ref ab, .ref ao, .ref ag, .ref ar, .int sh, .int rg])), (aa, .inl (E.2 2, 4, .inr (.inl (lA U)))), (ab, .inl (E.2 2, 4, .inr (.inl (lA V)))), (q0, .inr (6, [.int 5, .int (nI se), .ref qa_6, .ref qb_6, .int (nI 2)])), (qa_6, .inl (E.2 2, 3, .inr (.inl (lA (t2 (tA (U se * (qq * qq - pp * pp)) (V se * (2 * pp * qq))) (tA (U se * (2 * (qq * qq - pp * pp))) (V se * (2 * pp * qq)))))))), (qb_6, .inl (E.2 2, 3, .inr (.inl (lA (t2 (tB (U se * (qq * qq - pp * pp)) (V se * (2 * pp * qq))) (tB (U se * (2 * (qq * qq - pp * pp))) (V se * (2 * pp * qq))))))))] H := by rw [e9]; exact hP.sub [0, 1, 2, 3, 4, 5] rfl
  have hD9 : va_D A [(h0, .inr (3, [.ref aa, .ref ab, .ref ao, .ref ag, .ref ar, .int sh, .int rg])), (aa, .inl (E.2 2, 4, .inr (.inl (lA U)))), (ab, .inl (E.2 2, 4, .inr (.inl (lA V)))), (q0, .inr (6, [.int 5, .int (nI se), .ref qa_6, .ref qb_6, .int (nI 2)])), (qa_6, .inl (E.2 2, 3, .inr (.inl (lA (t2 (tA (U se * (qq * qq - pp * pp)) (V se * (2 * pp * qq))) (tA (U se * (2 * (qq * qq - pp * pp))) (V se * (2 * pp * qq)))))))), (qb_6, .inl (E.2 2, 3, .inr (.inl (lA (t2 (tB (U se * (qq * qq - pp * pp)) (V se * (2 * pp * qq))) (tB (U se * (2 * (qq * qq - pp * pp))) (V se * (2 * pp * qq))))))))] := by rw [e9]; exact hD.sub [0, 1, 2, 3, 4, 5] (by decide) rfl
  exact W.aret (v := .ref q0) hx hb hr (Or.inl ⟨_, rfl⟩) (Or.inr ⟨_, rfl⟩) (fun t9 ht9 hW9 => ⟨⟨(qa_6, qb_6), q0, rfl, trivial, ⟨by rw [ht9]; exact hP9, hD9⟩⟩, hS.F ht9⟩) hS.2.2 dX3_ballsPart_51
