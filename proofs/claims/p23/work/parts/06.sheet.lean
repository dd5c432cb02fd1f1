/-! Sheet, Mean -/
def fPut (ln v : Int32) : Int32 := if ln = 0 then v.toInt8.toInt32 else if ln = 1 then v.toInt16.toInt32 else v
def fVal (f : Nat → Int32) (st t : Nat) : Int32 := if t % st = 0 then f (t / st) else f (t / st) + fFD ((f (t / st + 1) - f (t / st)) * nI (t % st)) (nI st)
def tmF (M : Nat → Nat) (a j : Nat) : Nat := M a + (M (a + 1) - M a) * j / 32
def sumV (f : Nat → Int32) (st : Nat) (M : Nat → Nat) (a j : Nat) : Nat → Int32
  | 0 => 0
  | n + 1 => sumV f st M a j n + fVal f st (tmF M (a + n) j)
def meanF (f : Nat → Int32) (st : Nat) (M : Nat → Nat) (a c : Nat) (j : Nat) : Int32 := fFD (sumV f st M a j c) (nI c)
theorem lh_eq {n st : Nat} (h : 1 ≤ n) : (nI n - 1) * nI st = nI ((n - 1) * st) := by
  rw [show nI n - 1 = nI (n - 1) from pk_sub h, pk_mul]

set_option maxHeartbeats 1000000 in
set_option maxRecDepth 100000 in
theorem c_X7_init (l : Launch) (E : EnvT) (sz : Nat) (h0 : Nat)  : Met l yX7_init wsX7_init ({ frames := 1, cells := 1, slots := 200, locals := 20 }) (va_Pc [.ref h0] (PW E [(h0, .inr (7, [.null, .int 0, .int 0, .int 0, .int 0]))] sz)) (va_Qv (fun (uu : Nat) => True) (fun (uu : Nat) t => BW E (va_A [(h0, .inr (7, [.null, .int 0, .int 0, .int 0, .int 0]))] sz) [(h0, .inr (7, [.ref uu, .int 0, .int 0, .int 0, .int 1])), (uu, .inl (E.2 1, 200, .inl (fun _ => 0)))] t) (va_A [(h0, .inr (7, [.null, .int 0, .int 0, .int 0, .int 0]))] sz)) 1 200 (va_A [(h0, .inr (7, [.null, .int 0, .int 0, .int 0, .int 0]))] sz) := by
  refine Met.ofW (cc := cX7_init) (maxL := 1) (ret := none) (by decide +kernel) rfl ?_
  intro p e s m args below meth c s₁ B hml hv
  obtain ⟨rfl, hsz, hP, hE, hD0⟩ := hv
  have hx := B.exec
  have hb := B.bytes
  have hr := B.returns
  have hts := atoms_spec (ws := wsX7_init) B.pre
  have hown : s.vm.findClass RX7 = some m.cls := findClass_of_methodNamed B.named
  have hlocks := B.notSynchronized
  have hK := hE.1
  have hNN := hE.2.1
  have hin : meth.name = "<init>" := (name_of_methodNamed B.named B.method).1
  have hinX7 : ∀ w ∈ wsX70, w ∈ wsX7_init := fun w h => List.mem_cons_of_mem _ (List.mem_append_right _ h)
  subst hsz
  have hD := hD0.self (sz := s.heap.size)
  generalize hAe : va_A [(h0, .inr (7, [.null, .int 0, .int 0, .int 0, .int 0]))] s.heap.size = A at hD ⊢
  have hA : ∀ q : Nat, s.heap.size ≤ q → A q := fun q h => by rw [← hAe]; exact Or.inr h
  have hS : va_S A s.heap s.heap [] := va_S.rf
  have hl := lv_entry ([.ref h0]) (n := 1) (Nat.le_of_ble_eq_true rfl)
  rw [lg_entry_eq]
  generalize (lg_sl ([.ref h0]) ++ List.replicate (1 - (lg_sl ([.ref h0])).length) Slot.unset).toArray = ls at hl ⊢
  have hl : lv_has ls 1 [(0, .ref h0)] := hl
  refine lv_aload_n hx hb dX7_init_0 rfl (lv_at hl 0 rfl) ?_
  refine W.objInit hx hb hown (hts (.methodLink RX7 3 objectInit) (by decide +kernel)) (hts (.instanceMethod objectInit) (by decide +kernel)) (hts _ (List.mem_cons_of_mem _ (List.mem_append_left _ (List.mem_of_getElem? (i := 2) rfl)))) rfl (by rw [hml]; exact hl.1) rfl dX7_init_1 (Nat.le_of_ble_eq_true rfl) (Nat.le_of_ble_eq_true rfl) ?_
  refine W.eq (g2 := F0 m 4 ls []) rfl ?_
  refine lv_aload_n hx hb dX7_init_4 rfl (lv_at hl 0 rfl) ?_
  refine lv_sipush (v := 200) hx hb dX7_init_5 (by decide) ?_
  refine va_newa (atype := .int) (ty := .int) (N' := 200) (a0 := (200, .inl (fun _ => 0))) hx hb (hts (.arrayClass .int) (by decide +kernel)) rfl hK hP hD hS hA (newI _) (by decide) (by decide) (bytesI (Nat.le_of_ble_eq_true rfl)) (Nat.le_of_ble_eq_true rfl) (Nat.le_of_ble_eq_true rfl) dX7_init_8 (fun q8 cA H hK9 hP hD hS => ?_)
  obtain rfl : cA = E.2 1 := arrcl hK9 1 rfl rfl
  have hP : va_P E.1 vwCl [(h0, .inr (7, [.null, .int 0, .int 0, .int 0, .int 0])), (q8, .inl (E.2 1, 200, .inl (fun _ => 0)))] H := hP
  have hD : va_D A [(h0, .inr (7, [.null, .int 0, .int 0, .int 0, .int 0])), (q8, .inl (E.2 1, 200, .inl (fun _ => 0)))] := hD
  refine W.widen (k := 1) (n := 200) (by omega) (by omega) ?_
  refine va_putF (D := E.1) (ci := 7) (v := .ref q8) (ty := .array .int) (C := RX7) (T := TX7) (N := 5) hx hb hts hinX7 tyX7 tyX7_ok nmX7 hown hK hP hD hS 0 rfl rfl 0 (by decide) (hts (.fieldLink RX7 9 "WornRings$Sheet" "items" "[I") (by decide +kernel)) (fun _ h9 => h9) rfl hin rfl (by decide +kernel) (rfl) (rfl) (Nat.le_of_ble_eq_true rfl) dX7_init_10 (fun H locs hP hD hS => ?_)
  have hP : va_P E.1 vwCl [(h0, .inr (7, [.ref q8, .int 0, .int 0, .int 0, .int 0])), (q8, .inl (E.2 1, 200, .inl (fun _ => 0)))] H := hP
  have hD : va_D A [(h0, .inr (7, [.ref q8, .int 0, .int 0, .int 0, .int 0])), (q8, .inl (E.2 1, 200, .inl (fun _ => 0)))] := hD
  refine lv_aload_n hx hb dX7_init_13 rfl (lv_at hl 0 rfl) ?_
  refine lv_iconst (v := 1) hx hb dX7_init_14 (by decide) ?_
  refine va_put (D := E.1) (ci := 7) (v := .int 1) (ty := .int) (C := RX7) (T := TX7) (N := 5) hx hb hts hinX7 tyX7 tyX7_ok nmX7 hown hK hP hD hS 0 rfl rfl 4 (by decide) (hts (.fieldLink RX7 15 "WornRings$Sheet" "step" "I") (by decide +kernel)) (fun _ h9 => h9) rfl (by decide +kernel) (rfl) (rfl) (Nat.le_of_ble_eq_true rfl) dX7_init_15 (fun H locs hP hD hS => ?_)
  have hP : va_P E.1 vwCl [(h0, .inr (7, [.ref q8, .int 0, .int 0, .int 0, .int 1])), (q8, .inl (E.2 1, 200, .inl (fun _ => 0)))] H := hP
  have hD : va_D A [(h0, .inr (7, [.ref q8, .int 0, .int 0, .int 0, .int 1])), (q8, .inl (E.2 1, 200, .inl (fun _ => 0)))] := hD
  have hP9 : va_P E.1 vwCl [(h0, .inr (7, [.ref q8, .int 0, .int 0, .int 0, .int 1])), (q8, .inl (E.2 1, 200, .inl (fun _ => 0)))] H := hP.sub [0, 1] rfl
  have hD9 : va_D A [(h0, .inr (7, [.ref q8, .int 0, .int 0, .int 0, .int 1])), (q8, .inl (E.2 1, 200, .inl (fun _ => 0)))] := hD.sub [0, 1] (by decide) rfl
  exact W.vret hx hb hr (fun t9 ht9 hW9 => ⟨⟨(q8), rfl, trivial, ⟨by rw [ht9]; exact hP9, hD9⟩⟩, hS.F ht9⟩) hS.2.2 dX7_init_18
set_option maxHeartbeats 1000000 in
set_option maxRecDepth 100000 in
theorem c_X7_begin (l : Launch) (E : EnvT) (sz : Nat) (h0 : Nat) (a0 : Nat) (hd : Int32) (ln : Int32) (n : Int32) (st : Int32) (f : Nat → Int32) (l2 : Int32) (n2 : Int32) (s2 : Int32)  : Met l yX7_begin wsX7_begin ({ frames := 0, cells := 0, slots := 0, locals := 0 }) (va_Pc [.ref h0, .int l2, .int n2, .int s2] (PW E [(h0, .inr (7, [.ref a0, .int hd, .int ln, .int n, .int st])), (a0, .inl (E.2 1, 200, .inl f))] sz)) (va_Qv (fun (uu : Unit) => True) (fun (uu : Unit) t => BW E (va_A [(h0, .inr (7, [.ref a0, .int hd, .int ln, .int n, .int st])), (a0, .inl (E.2 1, 200, .inl f))] sz) [(h0, .inr (7, [.ref a0, .int 1, .int l2, .int n2, .int s2])), (a0, .inl (E.2 1, 200, .inl (flF (fun _ => (0 : Int32)) 200 f)))] t) (va_A [(h0, .inr (7, [.ref a0, .int hd, .int ln, .int n, .int st])), (a0, .inl (E.2 1, 200, .inl f))] sz)) 0 0 (va_A [(h0, .inr (7, [.ref a0, .int hd, .int ln, .int n, .int st])), (a0, .inl (E.2 1, 200, .inl f))] sz) := by
  refine Met.ofW (cc := cX7_begin) (maxL := 5) (ret := none) (by decide +kernel) rfl ?_
  intro p e s m args below meth c s₁ B hml hv
  obtain ⟨rfl, hsz, hP, hE, hD0⟩ := hv
  have hx := B.exec
  have hb := B.bytes
  have hr := B.returns
  have hts := atoms_spec (ws := wsX7_begin) B.pre
  have hown : s.vm.findClass RX7 = some m.cls := findClass_of_methodNamed B.named
  have hlocks := B.notSynchronized
  have hK := hE.1
  have hNN := hE.2.1
  have hinX7 : ∀ w ∈ wsX70, w ∈ wsX7_begin := fun w h => List.mem_cons_of_mem _ (List.mem_append_right _ h)
  subst hsz
  have hD := hD0.self (sz := s.heap.size)
  generalize hAe : va_A [(h0, .inr (7, [.ref a0, .int hd, .int ln, .int n, .int st])), (a0, .inl (E.2 1, 200, .inl f))] s.heap.size = A at hD ⊢
  have hA : ∀ q : Nat, s.heap.size ≤ q → A q := fun q h => by rw [← hAe]; exact Or.inr h
  have hS : va_S A s.heap s.heap [] := va_S.rf
  have hl := lv_entry ([.ref h0, .int l2, .int n2, .int s2]) (n := 5) (Nat.le_of_ble_eq_true rfl)
  rw [lg_entry_eq]
  generalize (lg_sl ([.ref h0, .int l2, .int n2, .int s2]) ++ List.replicate (5 - (lg_sl ([.ref h0, .int l2, .int n2, .int s2])).length) Slot.unset).toArray = ls at hl ⊢
  have hl : lv_has ls 5 [(0, .ref h0), (1, .int l2), (2, .int n2), (3, .int s2)] := hl
  refine lv_aload_n hx hb dX7_begin_0 rfl (lv_at hl 0 rfl) ?_
  refine lv_iconst (v := 1) hx hb dX7_begin_1 (by decide) ?_
  refine va_put (D := E.1) (ci := 7) (v := .int 1) (ty := .boolean) (C := RX7) (T := TX7) (N := 5) hx hb hts hinX7 tyX7 tyX7_ok nmX7 hown hK hP hD hS 0 rfl rfl 1 (by decide) (hts (.fieldLink RX7 19 "WornRings$Sheet" "held" "Z") (by decide +kernel)) (fun _ h9 => h9) rfl (by decide +kernel) (rfl) (rfl) (Nat.le_of_ble_eq_true rfl) dX7_begin_2 (fun H locs hP hD hS => ?_)
  have hP : va_P E.1 vwCl [(h0, .inr (7, [.ref a0, .int 1, .int ln, .int n, .int st])), (a0, .inl (E.2 1, 200, .inl f))] H := hP
  have hD : va_D A [(h0, .inr (7, [.ref a0, .int 1, .int ln, .int n, .int st])), (a0, .inl (E.2 1, 200, .inl f))] := hD
  refine lv_aload_n hx hb dX7_begin_5 rfl (lv_at hl 0 rfl) ?_
  refine lv_iload_n hx hb dX7_begin_6 rfl (lv_at hl 1 rfl) ?_
  refine va_put (D := E.1) (ci := 7) (v := .int l2) (ty := .int) (C := RX7) (T := TX7) (N := 5) hx hb hts hinX7 tyX7 tyX7_ok nmX7 hown hK hP hD hS 0 rfl rfl 2 (by decide) (hts (.fieldLink RX7 23 "WornRings$Sheet" "lane" "I") (by decide +kernel)) (fun _ h9 => h9) rfl (by decide +kernel) (rfl) (rfl) (Nat.le_of_ble_eq_true rfl) dX7_begin_7 (fun H locs hP hD hS => ?_)
  have hP : va_P E.1 vwCl [(h0, .inr (7, [.ref a0, .int 1, .int l2, .int n, .int st])), (a0, .inl (E.2 1, 200, .inl f))] H := hP
  have hD : va_D A [(h0, .inr (7, [.ref a0, .int 1, .int l2, .int n, .int st])), (a0, .inl (E.2 1, 200, .inl f))] := hD
  refine lv_aload_n hx hb dX7_begin_10 rfl (lv_at hl 0 rfl) ?_
  refine lv_iload_n hx hb dX7_begin_11 rfl (lv_at hl 2 rfl) ?_
  refine va_put (D := E.1) (ci := 7) (v := .int n2) (ty := .int) (C := RX7) (T := TX7) (N := 5) hx hb hts hinX7 tyX7 tyX7_ok nmX7 hown hK hP hD hS 0 rfl rfl 3 (by decide) (hts (.fieldLink RX7 26 "WornRings$Sheet" "length" "I") (by decide +kernel)) (fun _ h9 => h9) rfl (by decide +kernel) (rfl) (rfl) (Nat.le_of_ble_eq_true rfl) dX7_begin_12 (fun H locs hP hD hS => ?_)
  have hP : va_P E.1 vwCl [(h0, .inr (7, [.ref a0, .int 1, .int l2, .int n2, .int st])), (a0, .inl (E.2 1, 200, .inl f))] H := hP
  have hD : va_D A [(h0, .inr (7, [.ref a0, .int 1, .int l2, .int n2, .int st])), (a0, .inl (E.2 1, 200, .inl f))] := hD
  refine lv_aload_n hx hb dX7_begin_15 rfl (lv_at hl 0 rfl) ?_
  refine lv_iload_n hx hb dX7_begin_16 rfl (lv_at hl 3 rfl) ?_
  refine va_put (D := E.1) (ci := 7) (v := .int s2) (ty := .int) (C := RX7) (T := TX7) (N := 5) hx hb hts hinX7 tyX7 tyX7_ok nmX7 hown hK hP hD hS 0 rfl rfl 4 (by decide) (hts (.fieldLink RX7 15 "WornRings$Sheet" "step" "I") (by decide +kernel)) (fun _ h9 => h9) rfl (by decide +kernel) (rfl) (rfl) (Nat.le_of_ble_eq_true rfl) dX7_begin_17 (fun H locs hP hD hS => ?_)
  have hP : va_P E.1 vwCl [(h0, .inr (7, [.ref a0, .int 1, .int l2, .int n2, .int s2])), (a0, .inl (E.2 1, 200, .inl f))] H := hP
  have hD : va_D A [(h0, .inr (7, [.ref a0, .int 1, .int l2, .int n2, .int s2])), (a0, .inl (E.2 1, 200, .inl f))] := hD
  refine lv_iconst (v := 0) hx hb dX7_begin_20 (by decide) ?_
  refine lv_istore (lv' := [(4, .int 0), (0, .ref h0), (1, .int l2), (2, .int n2), (3, .int s2)]) hx hb dX7_begin_21 hl (by decide) rfl (fun ls hl => ?_)
  refine (fun (lp23 : ∀ (n9 : Nat) (i : Nat) (H : Heap) (locs : List Loc) (ls : Array Slot), (200 - i) < n9 → (i ≤ 200) → va_P E.1 vwCl [(h0, .inr (7, [.ref a0, .int 1, .int l2, .int n2, .int s2])), (a0, .inl (E.2 1, 200, .inl (flF (fun _ => (0 : Int32)) i f)))] H → va_D A [(h0, .inr (7, [.ref a0, .int 1, .int l2, .int n2, .int s2])), (a0, .inl (E.2 1, 200, .inl (flF (fun _ => (0 : Int32)) i f)))] → va_S A s.heap H locs → lv_has ls 5 [(0, .ref h0), (1, .int l2), (2, .int n2), (3, .int s2), (4, .int (nI i))] → W p l e _ s m _ below meth c H locs _ _ _ (F0 m 23 ls [])) => lp23 (201) 0 _ _ _ (by omega) (by omega) (by rw [flF_0]; exact hP.sub [0, 1] rfl) (by rw [flF_0]; exact hD.sub [0, 1] (by decide) rfl) hS (lv_sub hl [1, 2, 3, 4, 0] rfl)) ?_
  intro n23
  induction n23 with
  | zero => intro i H locs ls h0; exact absurd (by assumption) (Nat.not_lt_zero _)
  | succ n23 ih23 =>
    intro i H locs ls hmu23 hi hP hD hS hl
    refine lv_iload hx hb dX7_begin_23 (lv_at hl 4 rfl) ?_
    refine lv_aload_n hx hb dX7_begin_25 rfl (lv_at hl 0 rfl) ?_
    refine va_get (D := E.1) (ci := 7) (v := .ref a0) (C := RX7) (T := TX7) (N := 5) hx hb hts hinX7 hown hK hP 0 rfl rfl 0 (by decide) (hts (.fieldLink RX7 9 "WornRings$Sheet" "items" "[I") (by decide +kernel)) (fun _ h9 => h9) rfl dX7_begin_26 ?_
    refine va_alen (v := 200) hx hb hK hP 1 1 rfl rfl rfl dX7_begin_29 ?_
    refine lv_icmp_ge (tgt := 47) hx hb dX7_begin_30 (by decide) (fun c_30 => ?_) (fun c_30 => ?_)
    · have c_30 : 200 ≤ i := (nI_leI (a := 200) (b := i) (by omega) (by omega)).mp c_30
      have e9 : ([(h0, .inr (7, [.ref a0, .int 1, .int l2, .int n2, .int s2])), (a0, .inl (E.2 1, 200, .inl (flF (fun _ => (0 : Int32)) 200 f)))] : va_W) = [(h0, .inr (7, [.ref a0, .int 1, .int l2, .int n2, .int s2])), (a0, .inl (E.2 1, 200, .inl (flF (fun _ => (0 : Int32)) i f)))] := by rw [show i = 200 by omega]
      have hP9 : va_P E.1 vwCl [(h0, .inr (7, [.ref a0, .int 1, .int l2, .int n2, .int s2])), (a0, .inl (E.2 1, 200, .inl (flF (fun _ => (0 : Int32)) 200 f)))] H := by rw [e9]; exact hP.sub [0, 1] rfl
      have hD9 : va_D A [(h0, .inr (7, [.ref a0, .int 1, .int l2, .int n2, .int s2])), (a0, .inl (E.2 1, 200, .inl (flF (fun _ => (0 : Int32)) 200 f)))] := by rw [e9]; exact hD.sub [0, 1] (by decide) rfl
      exact W.vret hx hb hr (fun t9 ht9 hW9 => ⟨⟨(), rfl, trivial, ⟨by rw [ht9]; exact hP9, hD9⟩⟩, hS.F ht9⟩) hS.2.2 dX7_begin_47
    · have c_30 : ¬ 200 ≤ i := fun h9 => c_30 ((nI_leI (a := 200) (b := i) (by omega) (by omega)).mpr h9)
      refine lv_aload_n hx hb dX7_begin_33 rfl (lv_at hl 0 rfl) ?_
      refine va_get (D := E.1) (ci := 7) (v := .ref a0) (C := RX7) (T := TX7) (N := 5) hx hb hts hinX7 hown hK hP 0 rfl rfl 0 (by decide) (hts (.fieldLink RX7 9 "WornRings$Sheet" "items" "[I") (by decide +kernel)) (fun _ h9 => h9) rfl dX7_begin_34 ?_
      refine lv_iload hx hb dX7_begin_37 (lv_at hl 4 rfl) ?_
      refine lv_iconst (v := 0) hx hb dX7_begin_39 (by decide) ?_
      refine va_iast hx hb hK hP hD hS 1 1 rfl rfl (vp_in_nI (by omega) (by omega)) dX7_begin_40 (fun H locs hP hD hS => ?_)
      rw [nI_clamp (n := i) (by omega)] at hP hD
      have hP : va_P E.1 vwCl [(h0, .inr (7, [.ref a0, .int 1, .int l2, .int n2, .int s2])), (a0, .inl (E.2 1, 200, .inl (upd (flF (fun _ => (0 : Int32)) i f) i (0 : Int32))))] H := hP
      have hD : va_D A [(h0, .inr (7, [.ref a0, .int 1, .int l2, .int n2, .int s2])), (a0, .inl (E.2 1, 200, .inl (upd (flF (fun _ => (0 : Int32)) i f) i (0 : Int32))))] := hD
      refine lv_iinc (v := nI (i + 1)) (lv' := [(4, .int (nI (i + 1))), (0, .ref h0), (1, .int l2), (2, .int n2), (3, .int s2)]) hx hb dX7_begin_41 hl (k := 4) rfl (nI_add i 1) (by decide) rfl (fun ls hl => ?_)
      refine lv_goto (tgt := 23) hx hb dX7_begin_44 (by decide) ?_
      exact ih23 (i + 1) _ _ _ (by omega) (by omega) (by rw [← flF_s]; exact hP.sub [0, 1] rfl) (by rw [← flF_s]; exact hD.sub [0, 1] (by decide) rfl) hS (lv_sub hl [1, 2, 3, 4, 0] rfl)
set_option maxHeartbeats 1000000 in
set_option maxRecDepth 100000 in
theorem c_X7_put (l : Launch) (E : EnvT) (sz : Nat) (h0 : Nat) (a0 : Nat) (hd : Int32) (ln : Int32) (n : Nat) (st : Nat) (f : Nat → Int32) (k : Nat) (v : Int32) (hk : k < n) (hn : n ≤ 200) : Met l yX7_put wsX7_put ({ frames := 1, cells := 0, slots := 0, locals := 22 }) (va_Pc [.ref h0, .int (nI k), .int v] (PW E [(h0, .inr (7, [.ref a0, .int hd, .int ln, .int (nI n), .int (nI st)])), (a0, .inl (E.2 1, 200, .inl f))] sz)) (va_Qv (fun (uu : Unit) => True) (fun (uu : Unit) t => BW E (va_A [(h0, .inr (7, [.ref a0, .int hd, .int ln, .int (nI n), .int (nI st)])), (a0, .inl (E.2 1, 200, .inl f))] sz) [(h0, .inr (7, [.ref a0, .int hd, .int ln, .int (nI n), .int (nI st)])), (a0, .inl (E.2 1, 200, .inl (upd f k (fPut ln v))))] t) (va_A [(h0, .inr (7, [.ref a0, .int hd, .int ln, .int (nI n), .int (nI st)])), (a0, .inl (E.2 1, 200, .inl f))] sz)) 0 0 (va_A [(h0, .inr (7, [.ref a0, .int hd, .int ln, .int (nI n), .int (nI st)])), (a0, .inl (E.2 1, 200, .inl f))] sz) := by
  refine Met.ofW (cc := cX7_put) (maxL := 3) (ret := none) (by decide +kernel) rfl ?_
  intro p e s m args below meth c s₁ B hml hv
  obtain ⟨rfl, hsz, hP, hE, hD0⟩ := hv
  have hx := B.exec
  have hb := B.bytes
  have hr := B.returns
  have hts := atoms_spec (ws := wsX7_put) B.pre
  have hown : s.vm.findClass RX7 = some m.cls := findClass_of_methodNamed B.named
  have hlocks := B.notSynchronized
  have hK := hE.1
  have hNN := hE.2.1
  have hinX7 : ∀ w ∈ wsX70, w ∈ wsX7_put := fun w h => List.mem_cons_of_mem _ (List.mem_append_right _ h)
  subst hsz
  have hD := hD0.self (sz := s.heap.size)
  generalize hAe : va_A [(h0, .inr (7, [.ref a0, .int hd, .int ln, .int (nI n), .int (nI st)])), (a0, .inl (E.2 1, 200, .inl f))] s.heap.size = A at hD ⊢
  have hA : ∀ q : Nat, s.heap.size ≤ q → A q := fun q h => by rw [← hAe]; exact Or.inr h
  have hS : va_S A s.heap s.heap [] := va_S.rf
  have hl := lv_entry ([.ref h0, .int (nI k), .int v]) (n := 3) (Nat.le_of_ble_eq_true rfl)
  rw [lg_entry_eq]
  generalize (lg_sl ([.ref h0, .int (nI k), .int v]) ++ List.replicate (3 - (lg_sl ([.ref h0, .int (nI k), .int v])).length) Slot.unset).toArray = ls at hl ⊢
  have hl : lv_has ls 3 [(0, .ref h0), (1, .int (nI k)), (2, .int v)] := hl
  refine lv_iload_n hx hb dX7_put_0 rfl (lv_at hl 1 rfl) ?_
  refine lv_iconst (v := 0) hx hb dX7_put_1 (by decide) ?_
  refine lv_aload_n hx hb dX7_put_2 rfl (lv_at hl 0 rfl) ?_
  refine va_get (D := E.1) (ci := 7) (v := .int (nI n)) (C := RX7) (T := TX7) (N := 5) hx hb hts hinX7 hown hK hP 0 rfl rfl 3 (by decide) (hts (.fieldLink RX7 26 "WornRings$Sheet" "length" "I") (by decide +kernel)) (fun _ h9 => h9) rfl dX7_put_3 ?_
  refine lv_iconst (v := 1) hx hb dX7_put_6 (by decide) ?_
  refine lv_isub hx hb dX7_put_7 ?_
  rw [show ((nI n) - (1 : Int32) : Int32) = nI (n - 1) from pk_sub (a := n) (b := 1) (by omega)]
  refine rSNi hE ⟨hx, hb, hml, hown, hts⟩ (c_X8_within l E (nI k) 0 (nI (n - 1)) ) ⟨va_cnB 3 hts gX7_put_X8_within_n29 rfl rfl rfl (hNN (.methodLinkNest RX7 29 yX8_within "WornRings") (by decide +kernel)) (hts (.initialized RX8) (by decide +kernel)) (by decide +kernel) ⟨Nat.le_of_ble_eq_true rfl, Nat.le_of_ble_eq_true rfl⟩, hts (.static yX8_within) (by decide +kernel), trivial⟩ (hP.sub [] rfl) rfl hl.1 rfl (Nat.le_of_ble_eq_true rfl) dX7_put_8 ⟨(Nat.zero_le _), (Nat.zero_le _)⟩ ?_
  refine lv_if_ne (tgt := 15) hx hb dX7_put_11 (by decide) (fun c_11 => ?_) (fun c_11 => by exfalso; have c_11 := fWi_0 c_11; exact c_11 ⟨nI_pos' (by omega), nI_le (by omega) (by omega)⟩)
  have c_11 := fWi_1 c_11
  refine lv_aload_n hx hb dX7_put_15 rfl (lv_at hl 0 rfl) ?_
  refine va_get (D := E.1) (ci := 7) (v := .int ln) (C := RX7) (T := TX7) (N := 5) hx hb hts hinX7 hown hK hP 0 rfl rfl 2 (by decide) (hts (.fieldLink RX7 23 "WornRings$Sheet" "lane" "I") (by decide +kernel)) (fun _ h9 => h9) rfl dX7_put_16 ?_
  refine lv_if_ne (tgt := 33) hx hb dX7_put_19 (by decide) (fun c_19 => ?_) (fun c_19 => ?_)
  · refine lv_aload_n hx hb dX7_put_33 rfl (lv_at hl 0 rfl) ?_
    refine va_get (D := E.1) (ci := 7) (v := .int ln) (C := RX7) (T := TX7) (N := 5) hx hb hts hinX7 hown hK hP 0 rfl rfl 2 (by decide) (hts (.fieldLink RX7 23 "WornRings$Sheet" "lane" "I") (by decide +kernel)) (fun _ h9 => h9) rfl dX7_put_34 ?_
    refine lv_iconst (v := 1) hx hb dX7_put_37 (by decide) ?_
    refine lv_icmp_ne (tgt := 52) hx hb dX7_put_38 (by decide) (fun c_38 => ?_) (fun c_38 => ?_)
    · refine lv_aload_n hx hb dX7_put_52 rfl (lv_at hl 0 rfl) ?_
      refine va_get (D := E.1) (ci := 7) (v := .ref a0) (C := RX7) (T := TX7) (N := 5) hx hb hts hinX7 hown hK hP 0 rfl rfl 0 (by decide) (hts (.fieldLink RX7 9 "WornRings$Sheet" "items" "[I") (by decide +kernel)) (fun _ h9 => h9) rfl dX7_put_53 ?_
      refine lv_iload_n hx hb dX7_put_56 rfl (lv_at hl 1 rfl) ?_
      refine lv_iload_n hx hb dX7_put_57 rfl (lv_at hl 2 rfl) ?_
      refine va_iast hx hb hK hP hD hS 1 1 rfl rfl (vp_in_nI (by omega) (by omega)) dX7_put_58 (fun H locs hP hD hS => ?_)
      rw [nI_clamp (n := k) (by omega)] at hP hD
      have hP : va_P E.1 vwCl [(h0, .inr (7, [.ref a0, .int hd, .int ln, .int (nI n), .int (nI st)])), (a0, .inl (E.2 1, 200, .inl (upd f k v)))] H := hP
      have hD : va_D A [(h0, .inr (7, [.ref a0, .int hd, .int ln, .int (nI n), .int (nI st)])), (a0, .inl (E.2 1, 200, .inl (upd f k v)))] := hD
      have e9 : ([(h0, .inr (7, [.ref a0, .int hd, .int ln, .int (nI n), .int (nI st)])), (a0, .inl (E.2 1, 200, .inl (upd f k (fPut ln v))))] : va_W) = [(h0, .inr (7, [.ref a0, .int hd, .int ln, .int (nI n), .int (nI st)])), (a0, .inl (E.2 1, 200, .inl (upd f k v)))] := by first | (rw [fPut, if_pos c_19]; done) | (rw [fPut, if_neg c_19, if_pos c_38]; done) | (rw [fPut, if_neg c_19, if_neg c_38]; done)
      have hP9 : va_P E.1 vwCl [(h0, .inr (7, [.ref a0, .int hd, .int ln, .int (nI n), .int (nI st)])), (a0, .inl (E.2 1, 200, .inl (upd f k (fPut ln v))))] H := by rw [e9]; exact hP.sub [0, 1] rfl
      have hD9 : va_D A [(h0, .inr (7, [.ref a0, .int hd, .int ln, .int (nI n), .int (nI st)])), (a0, .inl (E.2 1, 200, .inl (upd f k (fPut ln v))))] := by rw [e9]; exact hD.sub [0, 1] (by decide) rfl
      exact W.vret hx hb hr (fun t9 ht9 hW9 => ⟨⟨(), rfl, trivial, ⟨by rw [ht9]; exact hP9, hD9⟩⟩, hS.F ht9⟩) hS.2.2 dX7_put_59
    · refine lv_aload_n hx hb dX7_put_41 rfl (lv_at hl 0 rfl) ?_
      refine va_get (D := E.1) (ci := 7) (v := .ref a0) (C := RX7) (T := TX7) (N := 5) hx hb hts hinX7 hown hK hP 0 rfl rfl 0 (by decide) (hts (.fieldLink RX7 9 "WornRings$Sheet" "items" "[I") (by decide +kernel)) (fun _ h9 => h9) rfl dX7_put_42 ?_
      refine lv_iload_n hx hb dX7_put_45 rfl (lv_at hl 1 rfl) ?_
      refine lv_iload_n hx hb dX7_put_46 rfl (lv_at hl 2 rfl) ?_
      refine lv_i2s (v := v.toInt16.toInt32) hx hb dX7_put_47 (rfl) ?_
      refine va_iast hx hb hK hP hD hS 1 1 rfl rfl (vp_in_nI (by omega) (by omega)) dX7_put_48 (fun H locs hP hD hS => ?_)
      rw [nI_clamp (n := k) (by omega)] at hP hD
      have hP : va_P E.1 vwCl [(h0, .inr (7, [.ref a0, .int hd, .int ln, .int (nI n), .int (nI st)])), (a0, .inl (E.2 1, 200, .inl (upd f k v.toInt16.toInt32)))] H := hP
      have hD : va_D A [(h0, .inr (7, [.ref a0, .int hd, .int ln, .int (nI n), .int (nI st)])), (a0, .inl (E.2 1, 200, .inl (upd f k v.toInt16.toInt32)))] := hD
      refine lv_goto (tgt := 59) hx hb dX7_put_49 (by decide) ?_
      have e9 : ([(h0, .inr (7, [.ref a0, .int hd, .int ln, .int (nI n), .int (nI st)])), (a0, .inl (E.2 1, 200, .inl (upd f k (fPut ln v))))] : va_W) = [(h0, .inr (7, [.ref a0, .int hd, .int ln, .int (nI n), .int (nI st)])), (a0, .inl (E.2 1, 200, .inl (upd f k v.toInt16.toInt32)))] := by first | (rw [fPut, if_pos c_19]; done) | (rw [fPut, if_neg c_19, if_pos c_38]; done) | (rw [fPut, if_neg c_19, if_neg c_38]; done)
      have hP9 : va_P E.1 vwCl [(h0, .inr (7, [.ref a0, .int hd, .int ln, .int (nI n), .int (nI st)])), (a0, .inl (E.2 1, 200, .inl (upd f k (fPut ln v))))] H := by rw [e9]; exact hP.sub [0, 1] rfl
      have hD9 : va_D A [(h0, .inr (7, [.ref a0, .int hd, .int ln, .int (nI n), .int (nI st)])), (a0, .inl (E.2 1, 200, .inl (upd f k (fPut ln v))))] := by rw [e9]; exact hD.sub [0, 1] (by decide) rfl
      exact W.vret hx hb hr (fun t9 ht9 hW9 => ⟨⟨(), rfl, trivial, ⟨by rw [ht9]; exact hP9, hD9⟩⟩, hS.F ht9⟩) hS.2.2 dX7_put_59
  · refine lv_aload_n hx hb dX7_put_22 rfl (lv_at hl 0 rfl) ?_
    refine va_get (D := E.1) (ci := 7) (v := .ref a0) (C := RX7) (T := TX7) (N := 5) hx hb hts hinX7 hown hK hP 0 rfl rfl 0 (by decide) (hts (.fieldLink RX7 9 "WornRings$Sheet" "items" "[I") (by decide +kernel)) (fun _ h9 => h9) rfl dX7_put_23 ?_
    refine lv_iload_n hx hb dX7_put_26 rfl (lv_at hl 1 rfl) ?_
    refine lv_iload_n hx hb dX7_put_27 rfl (lv_at hl 2 rfl) ?_
    refine lv_i2b (v := v.toInt8.toInt32) hx hb dX7_put_28 (rfl) ?_
    refine va_iast hx hb hK hP hD hS 1 1 rfl rfl (vp_in_nI (by omega) (by omega)) dX7_put_29 (fun H locs hP hD hS => ?_)
    rw [nI_clamp (n := k) (by omega)] at hP hD
    have hP : va_P E.1 vwCl [(h0, .inr (7, [.ref a0, .int hd, .int ln, .int (nI n), .int (nI st)])), (a0, .inl (E.2 1, 200, .inl (upd f k v.toInt8.toInt32)))] H := hP
    have hD : va_D A [(h0, .inr (7, [.ref a0, .int hd, .int ln, .int (nI n), .int (nI st)])), (a0, .inl (E.2 1, 200, .inl (upd f k v.toInt8.toInt32)))] := hD
    refine lv_goto (tgt := 59) hx hb dX7_put_30 (by decide) ?_
    have e9 : ([(h0, .inr (7, [.ref a0, .int hd, .int ln, .int (nI n), .int (nI st)])), (a0, .inl (E.2 1, 200, .inl (upd f k (fPut ln v))))] : va_W) = [(h0, .inr (7, [.ref a0, .int hd, .int ln, .int (nI n), .int (nI st)])), (a0, .inl (E.2 1, 200, .inl (upd f k v.toInt8.toInt32)))] := by first | (rw [fPut, if_pos c_19]; done) | (rw [fPut, if_neg c_19, if_pos c_38]; done) | (rw [fPut, if_neg c_19, if_neg c_38]; done)
    have hP9 : va_P E.1 vwCl [(h0, .inr (7, [.ref a0, .int hd, .int ln, .int (nI n), .int (nI st)])), (a0, .inl (E.2 1, 200, .inl (upd f k (fPut ln v))))] H := by rw [e9]; exact hP.sub [0, 1] rfl
    have hD9 : va_D A [(h0, .inr (7, [.ref a0, .int hd, .int ln, .int (nI n), .int (nI st)])), (a0, .inl (E.2 1, 200, .inl (upd f k (fPut ln v))))] := by rw [e9]; exact hD.sub [0, 1] (by decide) rfl
    exact W.vret hx hb hr (fun t9 ht9 hW9 => ⟨⟨(), rfl, trivial, ⟨by rw [ht9]; exact hP9, hD9⟩⟩, hS.F ht9⟩) hS.2.2 dX7_put_59
set_option maxHeartbeats 1000000 in
set_option maxRecDepth 100000 in
theorem c_X7_lastHeard (l : Launch) (E : EnvT) (h0 : Nat) (a0 : Nat) (hd : Int32) (ln : Int32) (n : Nat) (st : Nat) (f : Nat → Int32)  : Met l yX7_lastHeard wsX7_lastHeard ({ frames := 0, cells := 0, slots := 0, locals := 0 }) (va_Pc [.ref h0] (PR E [(h0, .inr (7, [.ref a0, .int hd, .int ln, .int (nI n), .int (nI st)])), (a0, .inl (E.2 1, 200, .inl f))])) (vp_Si (fun r => r = (nI n - 1) * nI st)) 0 0 (fun _ => False) := by
  refine Met.ofW (cc := cX7_lastHeard) (maxL := 1) (ret := (some .int)) (by decide +kernel) rfl ?_
  intro p e s m args below meth c s₁ B hml hv
  obtain ⟨rfl, hP, hE⟩ := hv
  have hx := B.exec
  have hb := B.bytes
  have hr := B.returns
  have hts := atoms_spec (ws := wsX7_lastHeard) B.pre
  have hown : s.vm.findClass RX7 = some m.cls := findClass_of_methodNamed B.named
  have hlocks := B.notSynchronized
  have hK := hE.1
  have hNN := hE.2.1
  have hinX7 : ∀ w ∈ wsX70, w ∈ wsX7_lastHeard := fun w h => List.mem_cons_of_mem _ (List.mem_append_right _ h)
  have hl := lv_entry ([.ref h0]) (n := 1) (Nat.le_of_ble_eq_true rfl)
  rw [lg_entry_eq]
  generalize (lg_sl ([.ref h0]) ++ List.replicate (1 - (lg_sl ([.ref h0])).length) Slot.unset).toArray = ls at hl ⊢
  have hl : lv_has ls 1 [(0, .ref h0)] := hl
  refine lv_aload_n hx hb dX7_lastHeard_0 rfl (lv_at hl 0 rfl) ?_
  refine va_get (D := E.1) (ci := 7) (v := .int (nI n)) (C := RX7) (T := TX7) (N := 5) hx hb hts hinX7 hown hK hP 0 rfl rfl 3 (by decide) (hts (.fieldLink RX7 26 "WornRings$Sheet" "length" "I") (by decide +kernel)) (fun _ h9 => h9) rfl dX7_lastHeard_1 ?_
  refine lv_iconst (v := 1) hx hb dX7_lastHeard_4 (by decide) ?_
  refine lv_isub hx hb dX7_lastHeard_5 ?_
  refine lv_aload_n hx hb dX7_lastHeard_6 rfl (lv_at hl 0 rfl) ?_
  refine va_get (D := E.1) (ci := 7) (v := .int (nI st)) (C := RX7) (T := TX7) (N := 5) hx hb hts hinX7 hown hK hP 0 rfl rfl 4 (by decide) (hts (.fieldLink RX7 15 "WornRings$Sheet" "step" "I") (by decide +kernel)) (fun _ h9 => h9) rfl dX7_lastHeard_7 ?_
  refine lv_imul hx hb dX7_lastHeard_10 ?_
  exact W.iret (v := ((nI n) - 1) * (nI st)) hx hb hr (fun t9 ht9 hW9 => ⟨((nI n) - 1) * (nI st), rfl, rfl, ht9⟩) (fun _ h => absurd h List.not_mem_nil) dX7_lastHeard_11
set_option maxHeartbeats 1000000 in
set_option maxRecDepth 100000 in
theorem c_X7_valueAt (l : Launch) (E : EnvT) (h0 : Nat) (a0 : Nat) (hd : Int32) (ln : Int32) (n : Nat) (st : Nat) (f : Nat → Int32) (t : Nat) (hn1 : 1 ≤ n) (hn : n ≤ 200) (hs1 : 1 ≤ st) (hs : st ≤ 1000) (ht : t ≤ (n - 1) * st) : Met l yX7_valueAt wsX7_valueAt ({ frames := 1, cells := 0, slots := 0, locals := 22 }) (va_Pc [.ref h0, .int (nI t)] (PR E [(h0, .inr (7, [.ref a0, .int hd, .int ln, .int (nI n), .int (nI st)])), (a0, .inl (E.2 1, 200, .inl f))])) (vp_Si (fun r => r = fVal f st t)) 0 0 (fun _ => False) := by
  refine Met.ofW (cc := cX7_valueAt) (maxL := 4) (ret := (some .int)) (by decide +kernel) rfl ?_
  intro p e s m args below meth c s₁ B hml hv
  obtain ⟨rfl, hP, hE⟩ := hv
  have hx := B.exec
  have hb := B.bytes
  have hr := B.returns
  have hts := atoms_spec (ws := wsX7_valueAt) B.pre
  have hown : s.vm.findClass RX7 = some m.cls := findClass_of_methodNamed B.named
  have hlocks := B.notSynchronized
  have hK := hE.1
  have hNN := hE.2.1
  have hinX7 : ∀ w ∈ wsX70, w ∈ wsX7_valueAt := fun w h => List.mem_cons_of_mem _ (List.mem_append_right _ h)
  have hl := lv_entry ([.ref h0, .int (nI t)]) (n := 4) (Nat.le_of_ble_eq_true rfl)
  rw [lg_entry_eq]
  generalize (lg_sl ([.ref h0, .int (nI t)]) ++ List.replicate (4 - (lg_sl ([.ref h0, .int (nI t)])).length) Slot.unset).toArray = ls at hl ⊢
  have hl : lv_has ls 4 [(0, .ref h0), (1, .int (nI t))] := hl
  have hb1 : (n - 1) * st ≤ 199 * 1000 := Nat.mul_le_mul (by omega) hs
  have hq1 : t / st ≤ n - 1 := by
    have h9 := Nat.div_le_div_right (c := st) ht
    rwa [Nat.mul_div_cancel _ (by omega)] at h9
  have hq2 : t % st < st := Nat.mod_lt _ (by omega)
  refine lv_aload_n hx hb dX7_valueAt_0 rfl (lv_at hl 0 rfl) ?_
  refine va_get (D := E.1) (ci := 7) (v := .int (nI st)) (C := RX7) (T := TX7) (N := 5) hx hb hts hinX7 hown hK hP 0 rfl rfl 4 (by decide) (hts (.fieldLink RX7 15 "WornRings$Sheet" "step" "I") (by decide +kernel)) (fun _ h9 => h9) rfl dX7_valueAt_1 ?_
  refine lv_iconst (v := 1) hx hb dX7_valueAt_4 (by decide) ?_
  refine lv_icmp_lt (tgt := 20) hx hb dX7_valueAt_5 (by decide) (fun c_5 => by exfalso; have c_5 : st < 1 := (nI_ltI (a := st) (b := 1) (by omega) (by omega)).mp c_5; omega) (fun c_5 => ?_)
  have c_5 : ¬ st < 1 := fun h9 => c_5 ((nI_ltI (a := st) (b := 1) (by omega) (by omega)).mpr h9)
  refine lv_iload_n hx hb dX7_valueAt_8 rfl (lv_at hl 1 rfl) ?_
  refine lv_iconst (v := 0) hx hb dX7_valueAt_9 (by decide) ?_
  refine lv_aload_n hx hb dX7_valueAt_10 rfl (lv_at hl 0 rfl) ?_
  refine rVi hE ⟨hx, hb, hml, hown, hts⟩ (c_X7_lastHeard l E h0 a0 hd ln n st f ) (cwV 0 hts gX7_valueAt_X7_lastHeard rfl rfl rfl (by decide +kernel) ⟨Nat.le_of_ble_eq_true rfl, Nat.le_of_ble_eq_true rfl⟩) (hP.sub [0, 1] rfl) 0 7 rfl rfl rfl hl.1 rfl (Nat.le_of_ble_eq_true rfl) dX7_valueAt_11 ⟨(Nat.zero_le _), (Nat.zero_le _)⟩ ?_
  rw [show ((nI n - 1) * nI st : Int32) = nI ((n - 1) * st) from lh_eq hn1]
  refine rSNi hE ⟨hx, hb, hml, hown, hts⟩ (c_X8_within l E (nI t) 0 (nI ((n - 1) * st)) ) ⟨va_cnB 3 hts gX7_valueAt_X8_within_n29 rfl rfl rfl (hNN (.methodLinkNest RX7 29 yX8_within "WornRings") (by decide +kernel)) (hts (.initialized RX8) (by decide +kernel)) (by decide +kernel) ⟨Nat.le_of_ble_eq_true rfl, Nat.le_of_ble_eq_true rfl⟩, hts (.static yX8_within) (by decide +kernel), trivial⟩ (hP.sub [] rfl) rfl hl.1 rfl (Nat.le_of_ble_eq_true rfl) dX7_valueAt_14 ⟨(Nat.zero_le _), (Nat.zero_le _)⟩ ?_
  refine lv_if_ne (tgt := 22) hx hb dX7_valueAt_17 (by decide) (fun c_17 => ?_) (fun c_17 => by exfalso; have c_17 := fWi_0 c_17; exact c_17 ⟨nI_pos' (by omega), nI_le (by omega) (by omega)⟩)
  have c_17 := fWi_1 c_17
  refine lv_iload_n hx hb dX7_valueAt_22 rfl (lv_at hl 1 rfl) ?_
  refine lv_aload_n hx hb dX7_valueAt_23 rfl (lv_at hl 0 rfl) ?_
  refine va_get (D := E.1) (ci := 7) (v := .int (nI st)) (C := RX7) (T := TX7) (N := 5) hx hb hts hinX7 hown hK hP 0 rfl rfl 4 (by decide) (hts (.fieldLink RX7 15 "WornRings$Sheet" "step" "I") (by decide +kernel)) (fun _ h9 => h9) rfl dX7_valueAt_24 ?_
  refine lv_idiv hx hb dX7_valueAt_27 (nI_ne0 (by omega) (by omega)) ?_
  rw [show ((nI t) / (nI st) : Int32) = nI (t / st) from pk_div (a := t) (d := st) (by omega) (by omega) (by omega)]
  refine lv_istore_n (lv' := [(2, .int (nI (t / st))), (0, .ref h0), (1, .int (nI t))]) hx hb dX7_valueAt_28 rfl hl (by decide) rfl (fun ls hl => ?_)
  refine lv_iload_n hx hb dX7_valueAt_29 rfl (lv_at hl 2 rfl) ?_
  refine lv_aload_n hx hb dX7_valueAt_30 rfl (lv_at hl 1 rfl) ?_
  refine va_get (D := E.1) (ci := 7) (v := .int (nI st)) (C := RX7) (T := TX7) (N := 5) hx hb hts hinX7 hown hK hP 0 rfl rfl 4 (by decide) (hts (.fieldLink RX7 15 "WornRings$Sheet" "step" "I") (by decide +kernel)) (fun _ h9 => h9) rfl dX7_valueAt_31 ?_
  refine lv_irem hx hb dX7_valueAt_34 (nI_ne0 (by omega) (by omega)) ?_
  rw [show ((nI t) - (nI t) / (nI st) * (nI st) : Int32) = nI (t % st) from pk_rem (a := t) (d := st) (by omega) (by omega) (by omega)]
  refine lv_istore_n (lv' := [(3, .int (nI (t % st))), (2, .int (nI (t / st))), (0, .ref h0), (1, .int (nI t))]) hx hb dX7_valueAt_35 rfl hl (by decide) rfl (fun ls hl => ?_)
  refine lv_iload_n hx hb dX7_valueAt_36 rfl (lv_at hl 0 rfl) ?_
  refine lv_if_ne (tgt := 47) hx hb dX7_valueAt_37 (by decide) (fun c_37 => ?_) (fun c_37 => ?_)
  · have c_37 : ¬ (t % st) = 0 := fun h9 => c_37 ((nI_eq (a := t % st) (b := 0) (by omega) (by omega)).mpr h9)
    have hq3 : t / st + 1 ≤ n - 1 := by
      rcases Nat.lt_or_ge (t / st) (n - 1) with h9 | h9
      · omega
      · exfalso
        have e9 : t / st = n - 1 := by omega
        have h8 := Nat.div_add_mod t st
        rw [e9, Nat.mul_comm] at h8
        omega
    refine lv_aload_n hx hb dX7_valueAt_47 rfl (lv_at hl 2 rfl) ?_
    refine va_get (D := E.1) (ci := 7) (v := .ref a0) (C := RX7) (T := TX7) (N := 5) hx hb hts hinX7 hown hK hP 0 rfl rfl 0 (by decide) (hts (.fieldLink RX7 9 "WornRings$Sheet" "items" "[I") (by decide +kernel)) (fun _ h9 => h9) rfl dX7_valueAt_48 ?_
    refine lv_iload_n hx hb dX7_valueAt_51 rfl (lv_at hl 1 rfl) ?_
    refine va_iald hx hb hK hP 1 1 rfl rfl (vp_in_nI (by omega) (by omega)) dX7_valueAt_52 ?_
    rw [nI_clamp (n := t / st) (by omega)]
    refine lv_aload_n hx hb dX7_valueAt_53 rfl (lv_at hl 2 rfl) ?_
    refine va_get (D := E.1) (ci := 7) (v := .ref a0) (C := RX7) (T := TX7) (N := 5) hx hb hts hinX7 hown hK hP 0 rfl rfl 0 (by decide) (hts (.fieldLink RX7 9 "WornRings$Sheet" "items" "[I") (by decide +kernel)) (fun _ h9 => h9) rfl dX7_valueAt_54 ?_
    refine lv_iload_n hx hb dX7_valueAt_57 rfl (lv_at hl 1 rfl) ?_
    refine lv_iconst (v := 1) hx hb dX7_valueAt_58 (by decide) ?_
    refine lv_iadd hx hb dX7_valueAt_59 ?_
    rw [show ((nI (t / st)) + (1 : Int32) : Int32) = nI ((t / st) + 1) from nI_add (t / st) 1]
    refine va_iald hx hb hK hP 1 1 rfl rfl (vp_in_nI (by omega) (by omega)) dX7_valueAt_60 ?_
    rw [nI_clamp (n := (t / st) + 1) (by omega)]
    refine lv_aload_n hx hb dX7_valueAt_61 rfl (lv_at hl 2 rfl) ?_
    refine va_get (D := E.1) (ci := 7) (v := .ref a0) (C := RX7) (T := TX7) (N := 5) hx hb hts hinX7 hown hK hP 0 rfl rfl 0 (by decide) (hts (.fieldLink RX7 9 "WornRings$Sheet" "items" "[I") (by decide +kernel)) (fun _ h9 => h9) rfl dX7_valueAt_62 ?_
    refine lv_iload_n hx hb dX7_valueAt_65 rfl (lv_at hl 1 rfl) ?_
    refine va_iald hx hb hK hP 1 1 rfl rfl (vp_in_nI (by omega) (by omega)) dX7_valueAt_66 ?_
    rw [nI_clamp (n := t / st) (by omega)]
    refine lv_isub hx hb dX7_valueAt_67 ?_
    refine lv_iload_n hx hb dX7_valueAt_68 rfl (lv_at hl 0 rfl) ?_
    refine lv_imul hx hb dX7_valueAt_69 ?_
    refine lv_aload_n hx hb dX7_valueAt_70 rfl (lv_at hl 2 rfl) ?_
    refine va_get (D := E.1) (ci := 7) (v := .int (nI st)) (C := RX7) (T := TX7) (N := 5) hx hb hts hinX7 hown hK hP 0 rfl rfl 4 (by decide) (hts (.fieldLink RX7 15 "WornRings$Sheet" "step" "I") (by decide +kernel)) (fun _ h9 => h9) rfl dX7_valueAt_71 ?_
    refine rSi hE ⟨hx, hb, hml, hown, hts⟩ (c_J9_floorDiv_7cf53 l E (((f ((t / st) + 1)) - (f (t / st))) * (nI (t % st))) (nI st) (nI_ne0 (by omega) (by omega))) (va_cwS 2 hts gX7_valueAt_J9_floorDiv_7cf53 rfl rfl rfl (by decide +kernel) ⟨Nat.le_of_ble_eq_true rfl, Nat.le_of_ble_eq_true rfl⟩) (hP.sub [] rfl) rfl hl.1 rfl (Nat.le_of_ble_eq_true rfl) dX7_valueAt_74 ⟨(Nat.zero_le _), (Nat.zero_le _)⟩ ?_
    refine lv_iadd hx hb dX7_valueAt_77 ?_
    exact W.iret (v := (f (t / st)) + (fFD (((f ((t / st) + 1)) - (f (t / st))) * (nI (t % st))) (nI st))) hx hb hr (fun t9 ht9 hW9 => ⟨(f (t / st)) + (fFD (((f ((t / st) + 1)) - (f (t / st))) * (nI (t % st))) (nI st)), rfl, by rw [fVal, if_neg c_37], ht9⟩) (fun _ h => absurd h List.not_mem_nil) dX7_valueAt_78
  · have c_37 : (t % st) = 0 := (nI_eq (a := t % st) (b := 0) (by omega) (by omega)).mp c_37
    refine lv_aload_n hx hb dX7_valueAt_40 rfl (lv_at hl 2 rfl) ?_
    refine va_get (D := E.1) (ci := 7) (v := .ref a0) (C := RX7) (T := TX7) (N := 5) hx hb hts hinX7 hown hK hP 0 rfl rfl 0 (by decide) (hts (.fieldLink RX7 9 "WornRings$Sheet" "items" "[I") (by decide +kernel)) (fun _ h9 => h9) rfl dX7_valueAt_41 ?_
    refine lv_iload_n hx hb dX7_valueAt_44 rfl (lv_at hl 1 rfl) ?_
    refine va_iald hx hb hK hP 1 1 rfl rfl (vp_in_nI (by omega) (by omega)) dX7_valueAt_45 ?_
    rw [nI_clamp (n := t / st) (by omega)]
    exact W.iret (v := f (t / st)) hx hb hr (fun t9 ht9 hW9 => ⟨f (t / st), rfl, by rw [fVal, if_pos c_37], ht9⟩) (fun _ h => absurd h List.not_mem_nil) dX7_valueAt_46
set_option maxHeartbeats 1000000 in
set_option maxRecDepth 100000 in
theorem c_X5_init (l : Launch) (E : EnvT) (sz : Nat) (h0 : Nat)  : Met l yX5_init wsX5_init ({ frames := 1, cells := 1, slots := 32, locals := 20 }) (va_Pc [.ref h0] (PW E [(h0, .inr (5, [.null, .int 0]))] sz)) (va_Qv (fun (uu : Nat) => True) (fun (uu : Nat) t => BW E (va_A [(h0, .inr (5, [.null, .int 0]))] sz) [(h0, .inr (5, [.ref uu, .int 0])), (uu, .inl (E.2 1, 32, .inl (fun _ => 0)))] t) (va_A [(h0, .inr (5, [.null, .int 0]))] sz)) 1 32 (va_A [(h0, .inr (5, [.null, .int 0]))] sz) := by
  refine Met.ofW (cc := cX5_init) (maxL := 1) (ret := none) (by decide +kernel) rfl ?_
  intro p e s m args below meth c s₁ B hml hv
  obtain ⟨rfl, hsz, hP, hE, hD0⟩ := hv
  have hx := B.exec
  have hb := B.bytes
  have hr := B.returns
  have hts := atoms_spec (ws := wsX5_init) B.pre
  have hown : s.vm.findClass RX5 = some m.cls := findClass_of_methodNamed B.named
  have hlocks := B.notSynchronized
  have hK := hE.1
  have hNN := hE.2.1
  have hin : meth.name = "<init>" := (name_of_methodNamed B.named B.method).1
  have hinX5 : ∀ w ∈ wsX50, w ∈ wsX5_init := fun w h => List.mem_cons_of_mem _ (List.mem_append_right _ h)
  subst hsz
  have hD := hD0.self (sz := s.heap.size)
  generalize hAe : va_A [(h0, .inr (5, [.null, .int 0]))] s.heap.size = A at hD ⊢
  have hA : ∀ q : Nat, s.heap.size ≤ q → A q := fun q h => by rw [← hAe]; exact Or.inr h
  have hS : va_S A s.heap s.heap [] := va_S.rf
  have hl := lv_entry ([.ref h0]) (n := 1) (Nat.le_of_ble_eq_true rfl)
  rw [lg_entry_eq]
  generalize (lg_sl ([.ref h0]) ++ List.replicate (1 - (lg_sl ([.ref h0])).length) Slot.unset).toArray = ls at hl ⊢
  have hl : lv_has ls 1 [(0, .ref h0)] := hl
  refine lv_aload_n hx hb dX5_init_0 rfl (lv_at hl 0 rfl) ?_
  refine W.objInit hx hb hown (hts (.methodLink RX5 3 objectInit) (by decide +kernel)) (hts (.instanceMethod objectInit) (by decide +kernel)) (hts _ (List.mem_cons_of_mem _ (List.mem_append_left _ (List.mem_of_getElem? (i := 2) rfl)))) rfl (by rw [hml]; exact hl.1) rfl dX5_init_1 (Nat.le_of_ble_eq_true rfl) (Nat.le_of_ble_eq_true rfl) ?_
  refine W.eq (g2 := F0 m 4 ls []) rfl ?_
  refine lv_aload_n hx hb dX5_init_4 rfl (lv_at hl 0 rfl) ?_
  refine lv_bipush (v := 32) hx hb dX5_init_5 (by decide) ?_
  refine va_newa (atype := .int) (ty := .int) (N' := 32) (a0 := (32, .inl (fun _ => 0))) hx hb (hts (.arrayClass .int) (by decide +kernel)) rfl hK hP hD hS hA (newI _) (by decide) (by decide) (bytesI (Nat.le_of_ble_eq_true rfl)) (Nat.le_of_ble_eq_true rfl) (Nat.le_of_ble_eq_true rfl) dX5_init_7 (fun q7 cA H hK9 hP hD hS => ?_)
  obtain rfl : cA = E.2 1 := arrcl hK9 1 rfl rfl
  have hP : va_P E.1 vwCl [(h0, .inr (5, [.null, .int 0])), (q7, .inl (E.2 1, 32, .inl (fun _ => 0)))] H := hP
  have hD : va_D A [(h0, .inr (5, [.null, .int 0])), (q7, .inl (E.2 1, 32, .inl (fun _ => 0)))] := hD
  refine W.widen (k := 1) (n := 32) (by omega) (by omega) ?_
  refine va_putF (D := E.1) (ci := 5) (v := .ref q7) (ty := .array .int) (C := RX5) (T := TX5) (N := 2) hx hb hts hinX5 tyX5 tyX5_ok nmX5 hown hK hP hD hS 0 rfl rfl 0 (by decide) (hts (.fieldLink RX5 9 "WornRings$Mean" "values" "[I") (by decide +kernel)) (fun _ h9 => h9) rfl hin rfl (by decide +kernel) (rfl) (rfl) (Nat.le_of_ble_eq_true rfl) dX5_init_9 (fun H locs hP hD hS => ?_)
  have hP : va_P E.1 vwCl [(h0, .inr (5, [.ref q7, .int 0])), (q7, .inl (E.2 1, 32, .inl (fun _ => 0)))] H := hP
  have hD : va_D A [(h0, .inr (5, [.ref q7, .int 0])), (q7, .inl (E.2 1, 32, .inl (fun _ => 0)))] := hD
  have hP9 : va_P E.1 vwCl [(h0, .inr (5, [.ref q7, .int 0])), (q7, .inl (E.2 1, 32, .inl (fun _ => 0)))] H := hP.sub [0, 1] rfl
  have hD9 : va_D A [(h0, .inr (5, [.ref q7, .int 0])), (q7, .inl (E.2 1, 32, .inl (fun _ => 0)))] := hD.sub [0, 1] (by decide) rfl
  exact W.vret hx hb hr (fun t9 ht9 hW9 => ⟨⟨(q7), rfl, trivial, ⟨by rw [ht9]; exact hP9, hD9⟩⟩, hS.F ht9⟩) hS.2.2 dX5_init_12
set_option maxHeartbeats 1000000 in
set_option maxRecDepth 100000 in
theorem c_X5_take (l : Launch) (E : EnvT) (sz : Nat) (h0 : Nat) (av : Nat) (told : Int32) (g : Nat → Int32) (h1 : Nat) (a1 : Nat) (hd : Int32) (ln : Int32) (n : Nat) (st : Nat) (f : Nat → Int32) (h2 : Nat) (a2 : Nat) (L : List Nat) (cn : Int32) (lt : Int32) (M : Nat → Nat) (a : Nat) (k : Nat) (hk1 : 1 ≤ k) (hk : k ≤ 40) (hL : L.length ≤ 120) (hak : a + k < L.length) (hic : ∀ j, j + 1 < L.length → M j < M (j + 1)) (hbd : ∀ j, j < L.length → M j ≤ 1000000) (hn1 : 1 ≤ n) (hn : n ≤ 200) (hs1 : 1 ≤ st) (hs : st ≤ 1000) (hT : ∀ b j, a ≤ b → b < a + k → j < 32 → tmF M b j ≤ (n - 1) * st) : Met l yX5_take wsX5_take ({ frames := 2, cells := 0, slots := 0, locals := 45 }) (va_Pc [.ref h0, .ref h1, .ref h2, .int (nI a), .int (nI k)] (PW E [(h0, .inr (5, [.ref av, .int told])), (av, .inl (E.2 1, 32, .inl g)), (h1, .inr (7, [.ref a1, .int hd, .int ln, .int (nI n), .int (nI st)])), (a1, .inl (E.2 1, 200, .inl f)), (h2, .inr (4, [.ref a2, .int (nI L.length), .int cn, .int lt])), (a2, .inl (E.2 1, 120, .inl (nA M)))] sz)) (va_Qv (fun (uu : Unit) => True) (fun (uu : Unit) t => BW E (va_A [(h0, .inr (5, [.ref av, .int told])), (av, .inl (E.2 1, 32, .inl g)), (h1, .inr (7, [.ref a1, .int hd, .int ln, .int (nI n), .int (nI st)])), (a1, .inl (E.2 1, 200, .inl f)), (h2, .inr (4, [.ref a2, .int (nI L.length), .int cn, .int lt])), (a2, .inl (E.2 1, 120, .inl (nA M)))] sz) [(h0, .inr (5, [.ref av, .int 1])), (av, .inl (E.2 1, 32, .inl (flF (meanF f st M a k) 32 g))), (h1, .inr (7, [.ref a1, .int hd, .int ln, .int (nI n), .int (nI st)])), (a1, .inl (E.2 1, 200, .inl f)), (h2, .inr (4, [.ref a2, .int (nI L.length), .int cn, .int lt])), (a2, .inl (E.2 1, 120, .inl (nA M)))] t) (va_A [(h0, .inr (5, [.ref av, .int told])), (av, .inl (E.2 1, 32, .inl g)), (h1, .inr (7, [.ref a1, .int hd, .int ln, .int (nI n), .int (nI st)])), (a1, .inl (E.2 1, 200, .inl f)), (h2, .inr (4, [.ref a2, .int (nI L.length), .int cn, .int lt])), (a2, .inl (E.2 1, 120, .inl (nA M)))] sz)) 0 0 (va_A [(h0, .inr (5, [.ref av, .int told])), (av, .inl (E.2 1, 32, .inl g)), (h1, .inr (7, [.ref a1, .int hd, .int ln, .int (nI n), .int (nI st)])), (a1, .inl (E.2 1, 200, .inl f)), (h2, .inr (4, [.ref a2, .int (nI L.length), .int cn, .int lt])), (a2, .inl (E.2 1, 120, .inl (nA M)))] sz) := by
  refine Met.ofW (cc := cX5_take) (maxL := 8) (ret := none) (by decide +kernel) rfl ?_
  intro p e s m args below meth c s₁ B hml hv
  obtain ⟨rfl, hsz, hP, hE, hD0⟩ := hv
  have hx := B.exec
  have hb := B.bytes
  have hr := B.returns
  have hts := atoms_spec (ws := wsX5_take) B.pre
  have hown : s.vm.findClass RX5 = some m.cls := findClass_of_methodNamed B.named
  have hlocks := B.notSynchronized
  have hK := hE.1
  have hNN := hE.2.1
  have hinX5 : ∀ w ∈ wsX50, w ∈ wsX5_take := fun w h => List.mem_cons_of_mem _ (List.mem_append_left _ (List.mem_append_left _ (List.mem_append_right _ h)))
  subst hsz
  have hD := hD0.self (sz := s.heap.size)
  generalize hAe : va_A [(h0, .inr (5, [.ref av, .int told])), (av, .inl (E.2 1, 32, .inl g)), (h1, .inr (7, [.ref a1, .int hd, .int ln, .int (nI n), .int (nI st)])), (a1, .inl (E.2 1, 200, .inl f)), (h2, .inr (4, [.ref a2, .int (nI L.length), .int cn, .int lt])), (a2, .inl (E.2 1, 120, .inl (nA M)))] s.heap.size = A at hD ⊢
  have hA : ∀ q : Nat, s.heap.size ≤ q → A q := fun q h => by rw [← hAe]; exact Or.inr h
  have hS : va_S A s.heap s.heap [] := va_S.rf
  have hl := lv_entry ([.ref h0, .ref h1, .ref h2, .int (nI a), .int (nI k)]) (n := 8) (Nat.le_of_ble_eq_true rfl)
  rw [lg_entry_eq]
  generalize (lg_sl ([.ref h0, .ref h1, .ref h2, .int (nI a), .int (nI k)]) ++ List.replicate (8 - (lg_sl ([.ref h0, .ref h1, .ref h2, .int (nI a), .int (nI k)])).length) Slot.unset).toArray = ls at hl ⊢
  have hl : lv_has ls 8 [(0, .ref h0), (1, .ref h1), (2, .ref h2), (3, .int (nI a)), (4, .int (nI k))] := hl
  refine lv_iload hx hb dX5_take_0 (lv_at hl 4 rfl) ?_
  refine lv_iconst (v := 1) hx hb dX5_take_2 (by decide) ?_
  refine lv_icmp_ge (tgt := 7) hx hb dX5_take_3 (by decide) (fun c_3 => ?_) (fun c_3 => by exfalso; have c_3 : ¬ 1 ≤ k := fun h9 => c_3 ((nI_leI (a := 1) (b := k) (by omega) (by omega)).mpr h9); omega)
  have c_3 : 1 ≤ k := (nI_leI (a := 1) (b := k) (by omega) (by omega)).mp c_3
  refine lv_iconst (v := 0) hx hb dX5_take_7 (by decide) ?_
  refine lv_istore (lv' := [(5, .int 0), (0, .ref h0), (1, .ref h1), (2, .ref h2), (3, .int (nI a)), (4, .int (nI k))]) hx hb dX5_take_8 hl (by decide) rfl (fun ls hl => ?_)
  refine (fun (lp10 : ∀ (n9 : Nat) (j : Nat) (H : Heap) (locs : List Loc) (ls : Array Slot), (32 - j) < n9 → (j ≤ 32) → va_P E.1 vwCl [(h0, .inr (5, [.ref av, .int told])), (av, .inl (E.2 1, 32, .inl (flF (meanF f st M a k) j g))), (h1, .inr (7, [.ref a1, .int hd, .int ln, .int (nI n), .int (nI st)])), (a1, .inl (E.2 1, 200, .inl f)), (h2, .inr (4, [.ref a2, .int (nI L.length), .int cn, .int lt])), (a2, .inl (E.2 1, 120, .inl (nA M)))] H → va_D A [(h0, .inr (5, [.ref av, .int told])), (av, .inl (E.2 1, 32, .inl (flF (meanF f st M a k) j g))), (h1, .inr (7, [.ref a1, .int hd, .int ln, .int (nI n), .int (nI st)])), (a1, .inl (E.2 1, 200, .inl f)), (h2, .inr (4, [.ref a2, .int (nI L.length), .int cn, .int lt])), (a2, .inl (E.2 1, 120, .inl (nA M)))] → va_S A s.heap H locs → lv_has ls 8 [(0, .ref h0), (1, .ref h1), (2, .ref h2), (3, .int (nI a)), (4, .int (nI k)), (5, .int (nI j))] → W p l e _ s m _ below meth c H locs _ _ _ (F0 m 10 ls [])) => lp10 (33) 0 _ _ _ (by omega) (by omega) (by rw [flF_0]; exact hP.sub [0, 1, 2, 3, 4, 5] rfl) (by rw [flF_0]; exact hD.sub [0, 1, 2, 3, 4, 5] (by decide) rfl) hS (lv_sub hl [1, 2, 3, 4, 5, 0] rfl)) ?_
  intro n10
  induction n10 with
  | zero => intro j H locs ls h0; exact absurd (by assumption) (Nat.not_lt_zero _)
  | succ n10 ih10 =>
    intro j H locs ls hmu10 hj hP hD hS hl
    refine lv_iload hx hb dX5_take_10 (lv_at hl 5 rfl) ?_
    refine lv_bipush (v := 32) hx hb dX5_take_12 (by decide) ?_
    refine lv_icmp_ge (tgt := 75) hx hb dX5_take_14 (by decide) (fun c_14 => ?_) (fun c_14 => ?_)
    · have c_14 : 32 ≤ j := (nI_leI (a := 32) (b := j) (by omega) (by omega)).mp c_14
      refine lv_aload_n hx hb dX5_take_75 rfl (lv_at hl 0 rfl) ?_
      refine lv_iconst (v := 1) hx hb dX5_take_76 (by decide) ?_
      refine va_put (D := E.1) (ci := 5) (v := .int 1) (ty := .boolean) (C := RX5) (T := TX5) (N := 2) hx hb hts hinX5 tyX5 tyX5_ok nmX5 hown hK hP hD hS 0 rfl rfl 1 (by decide) (hts (.fieldLink RX5 32 "WornRings$Mean" "told" "Z") (by decide +kernel)) (fun _ h9 => h9) rfl (by decide +kernel) (rfl) (rfl) (Nat.le_of_ble_eq_true rfl) dX5_take_77 (fun H locs hP hD hS => ?_)
      have hP : va_P E.1 vwCl [(h0, .inr (5, [.ref av, .int 1])), (av, .inl (E.2 1, 32, .inl (flF (meanF f st M a k) j g))), (h1, .inr (7, [.ref a1, .int hd, .int ln, .int (nI n), .int (nI st)])), (a1, .inl (E.2 1, 200, .inl f)), (h2, .inr (4, [.ref a2, .int (nI L.length), .int cn, .int lt])), (a2, .inl (E.2 1, 120, .inl (nA M)))] H := hP
      have hD : va_D A [(h0, .inr (5, [.ref av, .int 1])), (av, .inl (E.2 1, 32, .inl (flF (meanF f st M a k) j g))), (h1, .inr (7, [.ref a1, .int hd, .int ln, .int (nI n), .int (nI st)])), (a1, .inl (E.2 1, 200, .inl f)), (h2, .inr (4, [.ref a2, .int (nI L.length), .int cn, .int lt])), (a2, .inl (E.2 1, 120, .inl (nA M)))] := hD
      have e9 : ([(h0, .inr (5, [.ref av, .int 1])), (av, .inl (E.2 1, 32, .inl (flF (meanF f st M a k) 32 g))), (h1, .inr (7, [.ref a1, .int hd, .int ln, .int (nI n), .int (nI st)])), (a1, .inl (E.2 1, 200, .inl f)), (h2, .inr (4, [.ref a2, .int (nI L.length), .int cn, .int lt])), (a2, .inl (E.2 1, 120, .inl (nA M)))] : va_W) = [(h0, .inr (5, [.ref av, .int 1])), (av, .inl (E.2 1, 32, .inl (flF (meanF f st M a k) j g))), (h1, .inr (7, [.ref a1, .int hd, .int ln, .int (nI n), .int (nI st)])), (a1, .inl (E.2 1, 200, .inl f)), (h2, .inr (4, [.ref a2, .int (nI L.length), .int cn, .int lt])), (a2, .inl (E.2 1, 120, .inl (nA M)))] := by rw [show j = 32 by omega]
      have hP9 : va_P E.1 vwCl [(h0, .inr (5, [.ref av, .int 1])), (av, .inl (E.2 1, 32, .inl (flF (meanF f st M a k) 32 g))), (h1, .inr (7, [.ref a1, .int hd, .int ln, .int (nI n), .int (nI st)])), (a1, .inl (E.2 1, 200, .inl f)), (h2, .inr (4, [.ref a2, .int (nI L.length), .int cn, .int lt])), (a2, .inl (E.2 1, 120, .inl (nA M)))] H := by rw [e9]; exact hP.sub [0, 1, 2, 3, 4, 5] rfl
      have hD9 : va_D A [(h0, .inr (5, [.ref av, .int 1])), (av, .inl (E.2 1, 32, .inl (flF (meanF f st M a k) 32 g))), (h1, .inr (7, [.ref a1, .int hd, .int ln, .int (nI n), .int (nI st)])), (a1, .inl (E.2 1, 200, .inl f)), (h2, .inr (4, [.ref a2, .int (nI L.length), .int cn, .int lt])), (a2, .inl (E.2 1, 120, .inl (nA M)))] := by rw [e9]; exact hD.sub [0, 1, 2, 3, 4, 5] (by decide) rfl
      exact W.vret hx hb hr (fun t9 ht9 hW9 => ⟨⟨(), rfl, trivial, ⟨by rw [ht9]; exact hP9, hD9⟩⟩, hS.F ht9⟩) hS.2.2 dX5_take_80
    · have c_14 : ¬ 32 ≤ j := fun h9 => c_14 ((nI_leI (a := 32) (b := j) (by omega) (by omega)).mpr h9)
      refine lv_iconst (v := 0) hx hb dX5_take_17 (by decide) ?_
      refine lv_istore (lv' := [(6, .int 0), (0, .ref h0), (1, .ref h1), (2, .ref h2), (3, .int (nI a)), (4, .int (nI k)), (5, .int (nI j))]) hx hb dX5_take_18 hl (by decide) rfl (fun ls hl => ?_)
      refine lv_iconst (v := 0) hx hb dX5_take_20 (by decide) ?_
      refine lv_istore (lv' := [(7, .int 0), (6, .int 0), (0, .ref h0), (1, .ref h1), (2, .ref h2), (3, .int (nI a)), (4, .int (nI k)), (5, .int (nI j))]) hx hb dX5_take_21 hl (by decide) rfl (fun ls hl => ?_)
      refine (fun (lp23 : ∀ (n9 : Nat) (i : Nat) (ls : Array Slot), (k - i) < n9 → (i ≤ k) → lv_has ls 8 [(0, .ref h0), (1, .ref h1), (2, .ref h2), (3, .int (nI a)), (4, .int (nI k)), (5, .int (nI j)), (6, .int (sumV f st M a j i)), (7, .int (nI i))] → W p l e _ s m _ below meth c H locs _ _ _ (F0 m 23 ls [])) => lp23 (k + 1) 0 _ (by omega) (by omega) (lv_sub hl [2, 3, 4, 5, 6, 7, 1, 0] rfl)) ?_
      intro n23
      induction n23 with
      | zero => intro i ls h0; exact absurd (by assumption) (Nat.not_lt_zero _)
      | succ n23 ih23 =>
        intro i ls hmu23 hi hl
        refine lv_iload hx hb dX5_take_23 (lv_at hl 7 rfl) ?_
        refine lv_iload hx hb dX5_take_25 (lv_at hl 4 rfl) ?_
        refine lv_icmp_ge (tgt := 55) hx hb dX5_take_27 (by decide) (fun c_27 => ?_) (fun c_27 => ?_)
        · have c_27 : k ≤ i := (nI_leI (a := k) (b := i) (by omega) (by omega)).mp c_27
          refine lv_aload_n hx hb dX5_take_55 rfl (lv_at hl 0 rfl) ?_
          refine va_get (D := E.1) (ci := 5) (v := .ref av) (C := RX5) (T := TX5) (N := 2) hx hb hts hinX5 hown hK hP 0 rfl rfl 0 (by decide) (hts (.fieldLink RX5 9 "WornRings$Mean" "values" "[I") (by decide +kernel)) (fun _ h9 => h9) rfl dX5_take_56 ?_
          refine lv_iload hx hb dX5_take_59 (lv_at hl 5 rfl) ?_
          refine lv_iload hx hb dX5_take_61 (lv_at hl 6 rfl) ?_
          refine lv_iload hx hb dX5_take_63 (lv_at hl 4 rfl) ?_
          refine rSi hE ⟨hx, hb, hml, hown, hts⟩ (c_J9_floorDiv_7cf53 l E (sumV f st M a j i) (nI k) (nI_ne0 (by omega) (by omega))) (va_cwS 2 hts gX5_take_J9_floorDiv_7cf53 rfl rfl rfl (by decide +kernel) ⟨Nat.le_of_ble_eq_true rfl, Nat.le_of_ble_eq_true rfl⟩) (hP.sub [] rfl) rfl hl.1 rfl (Nat.le_of_ble_eq_true rfl) dX5_take_65 ⟨(Nat.zero_le _), (Nat.zero_le _)⟩ ?_
          refine va_iast hx hb hK hP hD hS 1 1 rfl rfl (vp_in_nI (by omega) (by omega)) dX5_take_68 (fun H locs hP hD hS => ?_)
          rw [nI_clamp (n := j) (by omega)] at hP hD
          have hP : va_P E.1 vwCl [(h0, .inr (5, [.ref av, .int told])), (av, .inl (E.2 1, 32, .inl (upd (flF (meanF f st M a k) j g) j (fFD (sumV f st M a j i) (nI k))))), (h1, .inr (7, [.ref a1, .int hd, .int ln, .int (nI n), .int (nI st)])), (a1, .inl (E.2 1, 200, .inl f)), (h2, .inr (4, [.ref a2, .int (nI L.length), .int cn, .int lt])), (a2, .inl (E.2 1, 120, .inl (nA M)))] H := hP
          have hD : va_D A [(h0, .inr (5, [.ref av, .int told])), (av, .inl (E.2 1, 32, .inl (upd (flF (meanF f st M a k) j g) j (fFD (sumV f st M a j i) (nI k))))), (h1, .inr (7, [.ref a1, .int hd, .int ln, .int (nI n), .int (nI st)])), (a1, .inl (E.2 1, 200, .inl f)), (h2, .inr (4, [.ref a2, .int (nI L.length), .int cn, .int lt])), (a2, .inl (E.2 1, 120, .inl (nA M)))] := hD
          refine lv_iinc (v := nI (j + 1)) (lv' := [(5, .int (nI (j + 1))), (0, .ref h0), (1, .ref h1), (2, .ref h2), (3, .int (nI a)), (4, .int (nI k)), (6, .int (sumV f st M a j i)), (7, .int (nI i))]) hx hb dX5_take_69 hl (k := 5) rfl (nI_add j 1) (by decide) rfl (fun ls hl => ?_)
          refine lv_goto (tgt := 10) hx hb dX5_take_72 (by decide) ?_
          exact ih10 (j + 1) _ _ _ (by omega) (by omega) (by rw [← flF_s, show meanF f st M a k j = fFD (sumV f st M a j i) (nI k) by rw [meanF, show i = k by omega]]; exact hP.sub [0, 1, 2, 3, 4, 5] rfl) (by rw [← flF_s, show meanF f st M a k j = fFD (sumV f st M a j i) (nI k) by rw [meanF, show i = k by omega]]; exact hD.sub [0, 1, 2, 3, 4, 5] (by decide) rfl) hS (lv_sub hl [1, 2, 3, 4, 5, 0] rfl)
        · have c_27 : ¬ k ≤ i := fun h9 => c_27 ((nI_leI (a := k) (b := i) (by omega) (by omega)).mpr h9)
          refine lv_iload hx hb dX5_take_30 (lv_at hl 6 rfl) ?_
          refine lv_aload_n hx hb dX5_take_32 rfl (lv_at hl 1 rfl) ?_
          refine lv_aload_n hx hb dX5_take_33 rfl (lv_at hl 2 rfl) ?_
          refine lv_iload_n hx hb dX5_take_34 rfl (lv_at hl 3 rfl) ?_
          refine lv_iload hx hb dX5_take_35 (lv_at hl 7 rfl) ?_
          refine lv_iadd hx hb dX5_take_37 ?_
          rw [show ((nI a) + (nI i) : Int32) = nI (a + i) from nI_add a i]
          refine lv_iload hx hb dX5_take_38 (lv_at hl 5 rfl) ?_
          refine rVi hE ⟨hx, hb, hml, hown, hts⟩ (c_X4_timeIn l E h2 a2 L cn lt M (a + i) j (hL) (by omega) (by omega) (hic _ (by omega)) (hbd _ (by omega))) (cwV 2 hts gX5_take_X4_timeIn rfl rfl rfl (by decide +kernel) ⟨Nat.le_of_ble_eq_true rfl, Nat.le_of_ble_eq_true rfl⟩) (hP.sub [4, 5] rfl) 0 4 rfl rfl rfl hl.1 rfl (Nat.le_of_ble_eq_true rfl) dX5_take_40 ⟨(Nat.zero_le _), (Nat.zero_le _)⟩ ?_
          refine rVi hE ⟨hx, hb, hml, hown, hts⟩ (c_X7_valueAt l E h1 a1 hd ln n st f (M (a + i) + (M ((a + i) + 1) - M (a + i)) * j / 32) (hn1) (hn) (hs1) (hs) (hT _ _ (by omega) (by omega) (by omega))) (cwV 1 hts gX5_take_X7_valueAt rfl rfl rfl (by decide +kernel) ⟨Nat.le_of_ble_eq_true rfl, Nat.le_of_ble_eq_true rfl⟩) (hP.sub [2, 3] rfl) 0 7 rfl rfl rfl hl.1 rfl (Nat.le_of_ble_eq_true rfl) dX5_take_43 ⟨(Nat.zero_le _), (Nat.zero_le _)⟩ ?_
          refine lv_iadd hx hb dX5_take_46 ?_
          refine lv_istore (lv' := [(6, .int ((sumV f st M a j i) + (fVal f st (M (a + i) + (M ((a + i) + 1) - M (a + i)) * j / 32)))), (0, .ref h0), (1, .ref h1), (2, .ref h2), (3, .int (nI a)), (4, .int (nI k)), (5, .int (nI j)), (7, .int (nI i))]) hx hb dX5_take_47 hl (by decide) rfl (fun ls hl => ?_)
          refine lv_iinc (v := nI (i + 1)) (lv' := [(7, .int (nI (i + 1))), (6, .int ((sumV f st M a j i) + (fVal f st (M (a + i) + (M ((a + i) + 1) - M (a + i)) * j / 32)))), (0, .ref h0), (1, .ref h1), (2, .ref h2), (3, .int (nI a)), (4, .int (nI k)), (5, .int (nI j))]) hx hb dX5_take_49 hl (k := 7) rfl (nI_add i 1) (by decide) rfl (fun ls hl => ?_)
          refine lv_goto (tgt := 23) hx hb dX5_take_52 (by decide) ?_
          exact ih23 (i + 1) _ (by omega) (by omega) (lv_sub hl [2, 3, 4, 5, 6, 7, 1, 0] rfl)
