/-! Load -/
def cnt (p : Nat → Bool) : Nat → Nat
  | 0 => 0
  | n + 1 => cnt p n + (if p n then 1 else 0)
theorem cnt_le (p : Nat → Bool) : ∀ n, cnt p n ≤ n
  | 0 => Nat.le_refl 0
  | n + 1 => by have h := cnt_le p n; simp only [cnt]; split <;> omega
def pLess (f : Nat → Int32) (v fl : Int32) (i : Nat) : Bool := if fl = 0 then decide (v < f i) else decide (f i < v)
def okMid (f : Nat → Int32) (i : Nat) : Bool := decide (cnt (pLess f (f i) 1) 5 ≤ 2) && decide (cnt (pLess f (f i) 0) 5 ≤ 2)
def fMidF (f : Nat → Int32) : Nat → Nat → Int32
  | 0, _ => f 0
  | n + 1, i => if okMid f i then f i else fMidF f n (i + 1)
def fMid (f : Nat → Int32) : Int32 := fMidF f 5 0
def allA (f : Nat → Int32) (a mid : Int32) : Nat → Nat → Bool
  | 0, _ => true
  | n + 1, i => decide (a.toInt64 * mid.toInt64 < (f i).toInt64 * 100) && allA f a mid n (i + 1)
def fLA (f : Nat → Int32) (k u : Nat) (a mid : Int32) : Int32 := if 5 + u ≤ k ∧ allA f a mid u (k - u) = true then 1 else 0
theorem fLA_0 {f : Nat → Int32} {k u : Nat} {a mid : Int32} (h : fLA f k u a mid = 0) : ¬ (5 + u ≤ k ∧ allA f a mid u (k - u) = true) := by
  intro h2; simp [fLA, h2] at h
theorem fLA_1 {f : Nat → Int32} {k u : Nat} {a mid : Int32} (h : ¬ fLA f k u a mid = 0) : 5 + u ≤ k ∧ allA f a mid u (k - u) = true := by
  rcases Classical.em (5 + u ≤ k ∧ allA f a mid u (k - u) = true) with h2 | h2
  · exact h2
  · exact absurd (by simp [fLA, h2]) h
def fJud (f : Nat → Int32) (k u : Nat) (a b mid wr : Int32) : Int32 := if k ≤ 5 then wr else if 5 + u ≤ k ∧ allA f a mid u (k - u) = true then 1 else if (f (k - 1)).toInt64 * 100 < b.toInt64 * mid.toInt64 then 0 else wr

set_option maxHeartbeats 1000000 in
set_option maxRecDepth 100000 in
theorem c_X2_init (l : Launch) (E : EnvT) (sz : Nat) (h0 : Nat)  : Met l yX2_init wsX2_init ({ frames := 1, cells := 1, slots := 200, locals := 20 }) (va_Pc [.ref h0] (PW E [(h0, .inr (2, [.null, .int 0, .int 0, .int 0]))] sz)) (va_Qv (fun (uu : Nat) => True) (fun (uu : Nat) t => BW E (va_A [(h0, .inr (2, [.null, .int 0, .int 0, .int 0]))] sz) [(h0, .inr (2, [.ref uu, .int 0, .int 0, .int 0])), (uu, .inl (E.2 1, 200, .inl (fun _ => 0)))] t) (va_A [(h0, .inr (2, [.null, .int 0, .int 0, .int 0]))] sz)) 1 200 (va_A [(h0, .inr (2, [.null, .int 0, .int 0, .int 0]))] sz) := by
  refine Met.ofW (cc := cX2_init) (maxL := 1) (ret := none) (by decide +kernel) rfl ?_
  intro p e s m args below meth c s₁ B hml hv
  obtain ⟨rfl, hsz, hP, hE, hD0⟩ := hv
  have hx := B.exec
  have hb := B.bytes
  have hr := B.returns
  have hts := atoms_spec (ws := wsX2_init) B.pre
  have hown : s.vm.findClass RX2 = some m.cls := findClass_of_methodNamed B.named
  have hlocks := B.notSynchronized
  have hK := hE.1
  have hNN := hE.2.1
  have hin : meth.name = "<init>" := (name_of_methodNamed B.named B.method).1
  have hinX2 : ∀ w ∈ wsX20, w ∈ wsX2_init := fun w h => List.mem_cons_of_mem _ (List.mem_append_right _ h)
  subst hsz
  have hD := hD0.self (sz := s.heap.size)
  generalize hAe : va_A [(h0, .inr (2, [.null, .int 0, .int 0, .int 0]))] s.heap.size = A at hD ⊢
  have hA : ∀ q : Nat, s.heap.size ≤ q → A q := fun q h => by rw [← hAe]; exact Or.inr h
  have hS : va_S A s.heap s.heap [] := va_S.rf
  have hl := lv_entry ([.ref h0]) (n := 1) (Nat.le_of_ble_eq_true rfl)
  rw [lg_entry_eq]
  generalize (lg_sl ([.ref h0]) ++ List.replicate (1 - (lg_sl ([.ref h0])).length) Slot.unset).toArray = ls at hl ⊢
  have hl : lv_has ls 1 [(0, .ref h0)] := hl
  refine lv_aload_n hx hb dX2_init_0 rfl (lv_at hl 0 rfl) ?_
  refine W.objInit hx hb hown (hts (.methodLink RX2 3 objectInit) (by decide +kernel)) (hts (.instanceMethod objectInit) (by decide +kernel)) (hts _ (List.mem_cons_of_mem _ (List.mem_append_left _ (List.mem_of_getElem? (i := 2) rfl)))) rfl (by rw [hml]; exact hl.1) rfl dX2_init_1 (Nat.le_of_ble_eq_true rfl) (Nat.le_of_ble_eq_true rfl) ?_
  refine W.eq (g2 := F0 m 4 ls []) rfl ?_
  refine lv_aload_n hx hb dX2_init_4 rfl (lv_at hl 0 rfl) ?_
  refine lv_sipush (v := 200) hx hb dX2_init_5 (by decide) ?_
  refine va_newa (atype := .int) (ty := .int) (N' := 200) (a0 := (200, .inl (fun _ => 0))) hx hb (hts (.arrayClass .int) (by decide +kernel)) rfl hK hP hD hS hA (newI _) (by decide) (by decide) (bytesI (Nat.le_of_ble_eq_true rfl)) (Nat.le_of_ble_eq_true rfl) (Nat.le_of_ble_eq_true rfl) dX2_init_8 (fun q8 cA H hK9 hP hD hS => ?_)
  obtain rfl : cA = E.2 1 := arrcl hK9 1 rfl rfl
  have hP : va_P E.1 vwCl [(h0, .inr (2, [.null, .int 0, .int 0, .int 0])), (q8, .inl (E.2 1, 200, .inl (fun _ => 0)))] H := hP
  have hD : va_D A [(h0, .inr (2, [.null, .int 0, .int 0, .int 0])), (q8, .inl (E.2 1, 200, .inl (fun _ => 0)))] := hD
  refine W.widen (k := 1) (n := 200) (by omega) (by omega) ?_
  refine va_putF (D := E.1) (ci := 2) (v := .ref q8) (ty := .array .int) (C := RX2) (T := TX2) (N := 4) hx hb hts hinX2 tyX2 tyX2_ok nmX2 hown hK hP hD hS 0 rfl rfl 0 (by decide) (hts (.fieldLink RX2 9 "WornRings$Load" "readings" "[I") (by decide +kernel)) (fun _ h9 => h9) rfl hin rfl (by decide +kernel) (rfl) (rfl) (Nat.le_of_ble_eq_true rfl) dX2_init_10 (fun H locs hP hD hS => ?_)
  have hP : va_P E.1 vwCl [(h0, .inr (2, [.ref q8, .int 0, .int 0, .int 0])), (q8, .inl (E.2 1, 200, .inl (fun _ => 0)))] H := hP
  have hD : va_D A [(h0, .inr (2, [.ref q8, .int 0, .int 0, .int 0])), (q8, .inl (E.2 1, 200, .inl (fun _ => 0)))] := hD
  have hP9 : va_P E.1 vwCl [(h0, .inr (2, [.ref q8, .int 0, .int 0, .int 0])), (q8, .inl (E.2 1, 200, .inl (fun _ => 0)))] H := hP.sub [0, 1] rfl
  have hD9 : va_D A [(h0, .inr (2, [.ref q8, .int 0, .int 0, .int 0])), (q8, .inl (E.2 1, 200, .inl (fun _ => 0)))] := hD.sub [0, 1] (by decide) rfl
  exact W.vret hx hb hr (fun t9 ht9 hW9 => ⟨⟨(q8), rfl, trivial, ⟨by rw [ht9]; exact hP9, hD9⟩⟩, hS.F ht9⟩) hS.2.2 dX2_init_13
set_option maxHeartbeats 1000000 in
set_option maxRecDepth 100000 in
theorem c_X2_clear (l : Launch) (E : EnvT) (sz : Nat) (h0 : Nat) (a0 : Nat) (cn : Int32) (mid : Int32) (wr : Int32) (f : Nat → Int32)  : Met l yX2_clear wsX2_clear ({ frames := 0, cells := 0, slots := 0, locals := 0 }) (va_Pc [.ref h0] (PW E [(h0, .inr (2, [.ref a0, .int cn, .int mid, .int wr])), (a0, .inl (E.2 1, 200, .inl f))] sz)) (va_Qv (fun (uu : Unit) => True) (fun (uu : Unit) t => BW E (va_A [(h0, .inr (2, [.ref a0, .int cn, .int mid, .int wr])), (a0, .inl (E.2 1, 200, .inl f))] sz) [(h0, .inr (2, [.ref a0, .int 0, .int mid, .int 0])), (a0, .inl (E.2 1, 200, .inl f))] t) (va_A [(h0, .inr (2, [.ref a0, .int cn, .int mid, .int wr])), (a0, .inl (E.2 1, 200, .inl f))] sz)) 0 0 (va_A [(h0, .inr (2, [.ref a0, .int cn, .int mid, .int wr])), (a0, .inl (E.2 1, 200, .inl f))] sz) := by
  refine Met.ofW (cc := cX2_clear) (maxL := 1) (ret := none) (by decide +kernel) rfl ?_
  intro p e s m args below meth c s₁ B hml hv
  obtain ⟨rfl, hsz, hP, hE, hD0⟩ := hv
  have hx := B.exec
  have hb := B.bytes
  have hr := B.returns
  have hts := atoms_spec (ws := wsX2_clear) B.pre
  have hown : s.vm.findClass RX2 = some m.cls := findClass_of_methodNamed B.named
  have hlocks := B.notSynchronized
  have hK := hE.1
  have hNN := hE.2.1
  have hinX2 : ∀ w ∈ wsX20, w ∈ wsX2_clear := fun w h => List.mem_cons_of_mem _ (List.mem_append_right _ h)
  subst hsz
  have hD := hD0.self (sz := s.heap.size)
  generalize hAe : va_A [(h0, .inr (2, [.ref a0, .int cn, .int mid, .int wr])), (a0, .inl (E.2 1, 200, .inl f))] s.heap.size = A at hD ⊢
  have hA : ∀ q : Nat, s.heap.size ≤ q → A q := fun q h => by rw [← hAe]; exact Or.inr h
  have hS : va_S A s.heap s.heap [] := va_S.rf
  have hl := lv_entry ([.ref h0]) (n := 1) (Nat.le_of_ble_eq_true rfl)
  rw [lg_entry_eq]
  generalize (lg_sl ([.ref h0]) ++ List.replicate (1 - (lg_sl ([.ref h0])).length) Slot.unset).toArray = ls at hl ⊢
  have hl : lv_has ls 1 [(0, .ref h0)] := hl
  refine lv_aload_n hx hb dX2_clear_0 rfl (lv_at hl 0 rfl) ?_
  refine lv_iconst (v := 0) hx hb dX2_clear_1 (by decide) ?_
  refine va_put (D := E.1) (ci := 2) (v := .int 0) (ty := .int) (C := RX2) (T := TX2) (N := 4) hx hb hts hinX2 tyX2 tyX2_ok nmX2 hown hK hP hD hS 0 rfl rfl 1 (by decide) (hts (.fieldLink RX2 15 "WornRings$Load" "count" "I") (by decide +kernel)) (fun _ h9 => h9) rfl (by decide +kernel) (rfl) (rfl) (Nat.le_of_ble_eq_true rfl) dX2_clear_2 (fun H locs hP hD hS => ?_)
  have hP : va_P E.1 vwCl [(h0, .inr (2, [.ref a0, .int 0, .int mid, .int wr])), (a0, .inl (E.2 1, 200, .inl f))] H := hP
  have hD : va_D A [(h0, .inr (2, [.ref a0, .int 0, .int mid, .int wr])), (a0, .inl (E.2 1, 200, .inl f))] := hD
  refine lv_aload_n hx hb dX2_clear_5 rfl (lv_at hl 0 rfl) ?_
  refine lv_iconst (v := 0) hx hb dX2_clear_6 (by decide) ?_
  refine va_put (D := E.1) (ci := 2) (v := .int 0) (ty := .boolean) (C := RX2) (T := TX2) (N := 4) hx hb hts hinX2 tyX2 tyX2_ok nmX2 hown hK hP hD hS 0 rfl rfl 3 (by decide) (hts (.fieldLink RX2 26 "WornRings$Load" "warning" "Z") (by decide +kernel)) (fun _ h9 => h9) rfl (by decide +kernel) (rfl) (rfl) (Nat.le_of_ble_eq_true rfl) dX2_clear_7 (fun H locs hP hD hS => ?_)
  have hP : va_P E.1 vwCl [(h0, .inr (2, [.ref a0, .int 0, .int mid, .int 0])), (a0, .inl (E.2 1, 200, .inl f))] H := hP
  have hD : va_D A [(h0, .inr (2, [.ref a0, .int 0, .int mid, .int 0])), (a0, .inl (E.2 1, 200, .inl f))] := hD
  have hP9 : va_P E.1 vwCl [(h0, .inr (2, [.ref a0, .int 0, .int mid, .int 0])), (a0, .inl (E.2 1, 200, .inl f))] H := hP.sub [0, 1] rfl
  have hD9 : va_D A [(h0, .inr (2, [.ref a0, .int 0, .int mid, .int 0])), (a0, .inl (E.2 1, 200, .inl f))] := hD.sub [0, 1] (by decide) rfl
  exact W.vret hx hb hr (fun t9 ht9 hW9 => ⟨⟨(), rfl, trivial, ⟨by rw [ht9]; exact hP9, hD9⟩⟩, hS.F ht9⟩) hS.2.2 dX2_clear_10
set_option maxHeartbeats 1000000 in
set_option maxRecDepth 100000 in
theorem c_X2_countFirst (l : Launch) (E : EnvT) (h0 : Nat) (a0 : Nat) (cn : Int32) (mid : Int32) (wr : Int32) (f : Nat → Int32) (v : Int32) (fl : Int32)  : Met l yX2_countFirst wsX2_countFirst ({ frames := 0, cells := 0, slots := 0, locals := 0 }) (va_Pc [.ref h0, .int v, .int fl] (PR E [(h0, .inr (2, [.ref a0, .int cn, .int mid, .int wr])), (a0, .inl (E.2 1, 200, .inl f))])) (vp_Si (fun r => r = nI (cnt (pLess f v fl) 5))) 0 0 (fun _ => False) := by
  refine Met.ofW (cc := cX2_countFirst) (maxL := 5) (ret := (some .int)) (by decide +kernel) rfl ?_
  intro p e s m args below meth c s₁ B hml hv
  obtain ⟨rfl, hP, hE⟩ := hv
  have hx := B.exec
  have hb := B.bytes
  have hr := B.returns
  have hts := atoms_spec (ws := wsX2_countFirst) B.pre
  have hown : s.vm.findClass RX2 = some m.cls := findClass_of_methodNamed B.named
  have hlocks := B.notSynchronized
  have hK := hE.1
  have hNN := hE.2.1
  have hinX2 : ∀ w ∈ wsX20, w ∈ wsX2_countFirst := fun w h => List.mem_cons_of_mem _ (List.mem_append_right _ h)
  have hl := lv_entry ([.ref h0, .int v, .int fl]) (n := 5) (Nat.le_of_ble_eq_true rfl)
  rw [lg_entry_eq]
  generalize (lg_sl ([.ref h0, .int v, .int fl]) ++ List.replicate (5 - (lg_sl ([.ref h0, .int v, .int fl])).length) Slot.unset).toArray = ls at hl ⊢
  have hl : lv_has ls 5 [(0, .ref h0), (1, .int v), (2, .int fl)] := hl
  refine lv_iconst (v := 0) hx hb dX2_countFirst_0 (by decide) ?_
  refine lv_istore_n (lv' := [(3, .int 0), (0, .ref h0), (1, .int v), (2, .int fl)]) hx hb dX2_countFirst_1 rfl hl (by decide) rfl (fun ls hl => ?_)
  refine lv_iconst (v := 0) hx hb dX2_countFirst_2 (by decide) ?_
  refine lv_istore (lv' := [(4, .int 0), (3, .int 0), (0, .ref h0), (1, .int v), (2, .int fl)]) hx hb dX2_countFirst_3 hl (by decide) rfl (fun ls hl => ?_)
  refine (fun (lp5 : ∀ (n9 : Nat) (i : Nat) (ls : Array Slot), (5 - i) < n9 → (i ≤ 5) → lv_has ls 5 [(0, .ref h0), (1, .int v), (2, .int fl), (3, .int (nI (cnt (pLess f v fl) i))), (4, .int (nI i))] → W p l e _ s m _ below meth c s.heap [] _ _ _ (F0 m 5 ls [])) => lp5 (6) 0 _ (by omega) (by omega) (lv_sub hl [2, 3, 4, 1, 0] rfl)) ?_
  intro n5
  induction n5 with
  | zero => intro i ls h0; exact absurd (by assumption) (Nat.not_lt_zero _)
  | succ n5 ih5 =>
    intro i ls hmu5 hi hl
    have hc := cnt_le (pLess f v fl) i
    refine lv_iload hx hb dX2_countFirst_5 (lv_at hl 4 rfl) ?_
    refine lv_iconst (v := 5) hx hb dX2_countFirst_7 (by decide) ?_
    refine lv_icmp_ge (tgt := 49) hx hb dX2_countFirst_8 (by decide) (fun c_8 => ?_) (fun c_8 => ?_)
    · have c_8 : 5 ≤ i := (nI_leI (a := 5) (b := i) (by omega) (by omega)).mp c_8
      refine lv_iload_n hx hb dX2_countFirst_49 rfl (lv_at hl 3 rfl) ?_
      exact W.iret (v := nI (cnt (pLess f v fl) i)) hx hb hr (fun t9 ht9 hW9 => ⟨nI (cnt (pLess f v fl) i), rfl, by rw [show i = 5 by omega], ht9⟩) (fun _ h => absurd h List.not_mem_nil) dX2_countFirst_50
    · have c_8 : ¬ 5 ≤ i := fun h9 => c_8 ((nI_leI (a := 5) (b := i) (by omega) (by omega)).mpr h9)
      refine lv_iload_n hx hb dX2_countFirst_11 rfl (lv_at hl 2 rfl) ?_
      refine lv_if_eq (tgt := 29) hx hb dX2_countFirst_12 (by decide) (fun c_12 => ?_) (fun c_12 => ?_)
      · refine lv_aload_n hx hb dX2_countFirst_29 rfl (lv_at hl 0 rfl) ?_
        refine va_get (D := E.1) (ci := 2) (v := .ref a0) (C := RX2) (T := TX2) (N := 4) hx hb hts hinX2 hown hK hP 0 rfl rfl 0 (by decide) (hts (.fieldLink RX2 9 "WornRings$Load" "readings" "[I") (by decide +kernel)) (fun _ h9 => h9) rfl dX2_countFirst_30 ?_
        refine lv_iload hx hb dX2_countFirst_33 (lv_at hl 4 rfl) ?_
        refine va_iald hx hb hK hP 1 1 rfl rfl (vp_in_nI (by omega) (by omega)) dX2_countFirst_35 ?_
        rw [nI_clamp (n := i) (by omega)]
        refine lv_iload_n hx hb dX2_countFirst_36 rfl (lv_at hl 1 rfl) ?_
        refine lv_icmp_le (tgt := 43) hx hb dX2_countFirst_37 (by decide) (fun c_37 => ?_) (fun c_37 => ?_)
        · refine lv_iinc (v := nI (i + 1)) (lv' := [(4, .int (nI (i + 1))), (0, .ref h0), (1, .int v), (2, .int fl), (3, .int (nI (cnt (pLess f v fl) i)))]) hx hb dX2_countFirst_43 hl (k := 4) rfl (nI_add i 1) (by decide) rfl (fun ls hl => ?_)
          refine lv_goto (tgt := 5) hx hb dX2_countFirst_46 (by decide) ?_
          have e9_0 : cnt (pLess f v fl) (i + 1) = cnt (pLess f v fl) i := by simp only [cnt, pLess, c_12, if_true, if_false, decide_eq_true_eq, Int32.lt_iff_toInt_lt, Int32.le_iff_toInt_le] at c_8 c_12 c_37 ⊢; split <;> omega
          exact ih5 (i + 1) _ (by omega) (by omega) (by rw [e9_0]; exact lv_sub hl [1, 2, 3, 4, 0] rfl)
        · refine lv_iinc (v := nI ((cnt (pLess f v fl) i) + 1)) (lv' := [(3, .int (nI ((cnt (pLess f v fl) i) + 1))), (0, .ref h0), (1, .int v), (2, .int fl), (4, .int (nI i))]) hx hb dX2_countFirst_40 hl (k := 3) rfl (nI_add (cnt (pLess f v fl) i) 1) (by decide) rfl (fun ls hl => ?_)
          refine lv_iinc (v := nI (i + 1)) (lv' := [(4, .int (nI (i + 1))), (3, .int (nI ((cnt (pLess f v fl) i) + 1))), (0, .ref h0), (1, .int v), (2, .int fl)]) hx hb dX2_countFirst_43 hl (k := 4) rfl (nI_add i 1) (by decide) rfl (fun ls hl => ?_)
          refine lv_goto (tgt := 5) hx hb dX2_countFirst_46 (by decide) ?_
          have e9_0 : cnt (pLess f v fl) (i + 1) = (cnt (pLess f v fl) i) + 1 := by simp only [cnt, pLess, c_12, if_true, if_false, decide_eq_true_eq, Int32.lt_iff_toInt_lt, Int32.le_iff_toInt_le] at c_8 c_12 c_37 ⊢; split <;> omega
          exact ih5 (i + 1) _ (by omega) (by omega) (by rw [e9_0]; exact lv_sub hl [2, 3, 4, 1, 0] rfl)
      · refine lv_aload_n hx hb dX2_countFirst_15 rfl (lv_at hl 0 rfl) ?_
        refine va_get (D := E.1) (ci := 2) (v := .ref a0) (C := RX2) (T := TX2) (N := 4) hx hb hts hinX2 hown hK hP 0 rfl rfl 0 (by decide) (hts (.fieldLink RX2 9 "WornRings$Load" "readings" "[I") (by decide +kernel)) (fun _ h9 => h9) rfl dX2_countFirst_16 ?_
        refine lv_iload hx hb dX2_countFirst_19 (lv_at hl 4 rfl) ?_
        refine va_iald hx hb hK hP 1 1 rfl rfl (vp_in_nI (by omega) (by omega)) dX2_countFirst_21 ?_
        rw [nI_clamp (n := i) (by omega)]
        refine lv_iload_n hx hb dX2_countFirst_22 rfl (lv_at hl 1 rfl) ?_
        refine lv_icmp_ge (tgt := 43) hx hb dX2_countFirst_23 (by decide) (fun c_23 => ?_) (fun c_23 => ?_)
        · refine lv_iinc (v := nI (i + 1)) (lv' := [(4, .int (nI (i + 1))), (0, .ref h0), (1, .int v), (2, .int fl), (3, .int (nI (cnt (pLess f v fl) i)))]) hx hb dX2_countFirst_43 hl (k := 4) rfl (nI_add i 1) (by decide) rfl (fun ls hl => ?_)
          refine lv_goto (tgt := 5) hx hb dX2_countFirst_46 (by decide) ?_
          have e9_0 : cnt (pLess f v fl) (i + 1) = cnt (pLess f v fl) i := by simp only [cnt, pLess, c_12, if_true, if_false, decide_eq_true_eq, Int32.lt_iff_toInt_lt, Int32.le_iff_toInt_le] at c_8 c_12 c_23 ⊢; split <;> omega
          exact ih5 (i + 1) _ (by omega) (by omega) (by rw [e9_0]; exact lv_sub hl [1, 2, 3, 4, 0] rfl)
        · refine lv_goto (tgt := 40) hx hb dX2_countFirst_26 (by decide) ?_
          refine lv_iinc (v := nI ((cnt (pLess f v fl) i) + 1)) (lv' := [(3, .int (nI ((cnt (pLess f v fl) i) + 1))), (0, .ref h0), (1, .int v), (2, .int fl), (4, .int (nI i))]) hx hb dX2_countFirst_40 hl (k := 3) rfl (nI_add (cnt (pLess f v fl) i) 1) (by decide) rfl (fun ls hl => ?_)
          refine lv_iinc (v := nI (i + 1)) (lv' := [(4, .int (nI (i + 1))), (3, .int (nI ((cnt (pLess f v fl) i) + 1))), (0, .ref h0), (1, .int v), (2, .int fl)]) hx hb dX2_countFirst_43 hl (k := 4) rfl (nI_add i 1) (by decide) rfl (fun ls hl => ?_)
          refine lv_goto (tgt := 5) hx hb dX2_countFirst_46 (by decide) ?_
          have e9_0 : cnt (pLess f v fl) (i + 1) = (cnt (pLess f v fl) i) + 1 := by simp only [cnt, pLess, c_12, if_true, if_false, decide_eq_true_eq, Int32.lt_iff_toInt_lt, Int32.le_iff_toInt_le] at c_8 c_12 c_23 ⊢; split <;> omega
          exact ih5 (i + 1) _ (by omega) (by omega) (by rw [e9_0]; exact lv_sub hl [2, 3, 4, 1, 0] rfl)
set_option maxHeartbeats 1000000 in
set_option maxRecDepth 100000 in
theorem c_X2_middleOfFirst (l : Launch) (E : EnvT) (h0 : Nat) (a0 : Nat) (cn : Int32) (mid : Int32) (wr : Int32) (f : Nat → Int32)  : Met l yX2_middleOfFirst wsX2_middleOfFirst ({ frames := 1, cells := 0, slots := 0, locals := 24 }) (va_Pc [.ref h0] (PR E [(h0, .inr (2, [.ref a0, .int cn, .int mid, .int wr])), (a0, .inl (E.2 1, 200, .inl f))])) (vp_Si (fun r => r = fMid f)) 0 0 (fun _ => False) := by
  refine Met.ofW (cc := cX2_middleOfFirst) (maxL := 2) (ret := (some .int)) (by decide +kernel) rfl ?_
  intro p e s m args below meth c s₁ B hml hv
  obtain ⟨rfl, hP, hE⟩ := hv
  have hx := B.exec
  have hb := B.bytes
  have hr := B.returns
  have hts := atoms_spec (ws := wsX2_middleOfFirst) B.pre
  have hown : s.vm.findClass RX2 = some m.cls := findClass_of_methodNamed B.named
  have hlocks := B.notSynchronized
  have hK := hE.1
  have hNN := hE.2.1
  have hinX2 : ∀ w ∈ wsX20, w ∈ wsX2_middleOfFirst := fun w h => List.mem_cons_of_mem _ (List.mem_append_right _ h)
  have hl := lv_entry ([.ref h0]) (n := 2) (Nat.le_of_ble_eq_true rfl)
  rw [lg_entry_eq]
  generalize (lg_sl ([.ref h0]) ++ List.replicate (2 - (lg_sl ([.ref h0])).length) Slot.unset).toArray = ls at hl ⊢
  have hl : lv_has ls 2 [(0, .ref h0)] := hl
  refine lv_iconst (v := 0) hx hb dX2_middleOfFirst_0 (by decide) ?_
  refine lv_istore_n (lv' := [(1, .int 0), (0, .ref h0)]) hx hb dX2_middleOfFirst_1 rfl hl (by decide) rfl (fun ls hl => ?_)
  refine (fun (lp2 : ∀ (n9 : Nat) (i : Nat) (ls : Array Slot), (5 - i) < n9 → (i ≤ 5) → (fMidF f (5 - i) i = fMid f) → lv_has ls 2 [(0, .ref h0), (1, .int (nI i))] → W p l e _ s m _ below meth c s.heap [] _ _ _ (F0 m 2 ls [])) => lp2 (6) 0 _ (by omega) (by omega) (rfl) (lv_sub hl [1, 0] rfl)) ?_
  intro n2
  induction n2 with
  | zero => intro i ls h0; exact absurd (by assumption) (Nat.not_lt_zero _)
  | succ n2 ih2 =>
    intro i ls hmu2 hi hm hl
    have hc1 := cnt_le (pLess f (f i) 1) 5
    have hc0 := cnt_le (pLess f (f i) 0) 5
    refine lv_iload_n hx hb dX2_middleOfFirst_2 rfl (lv_at hl 1 rfl) ?_
    refine lv_iconst (v := 5) hx hb dX2_middleOfFirst_3 (by decide) ?_
    refine lv_icmp_ge (tgt := 50) hx hb dX2_middleOfFirst_4 (by decide) (fun c_4 => ?_) (fun c_4 => ?_)
    · have c_4 : 5 ≤ i := (nI_leI (a := 5) (b := i) (by omega) (by omega)).mp c_4
      refine lv_aload_n hx hb dX2_middleOfFirst_50 rfl (lv_at hl 0 rfl) ?_
      refine va_get (D := E.1) (ci := 2) (v := .ref a0) (C := RX2) (T := TX2) (N := 4) hx hb hts hinX2 hown hK hP 0 rfl rfl 0 (by decide) (hts (.fieldLink RX2 9 "WornRings$Load" "readings" "[I") (by decide +kernel)) (fun _ h9 => h9) rfl dX2_middleOfFirst_51 ?_
      refine lv_iconst (v := 0) hx hb dX2_middleOfFirst_54 (by decide) ?_
      refine va_iald hx hb hK hP 1 1 rfl rfl (by unfold vp_in; decide) dX2_middleOfFirst_55 ?_
      refine W.eq (g2 := F0 m 56 ls [.int (f 0)]) rfl ?_
      exact W.iret (v := f 0) hx hb hr (fun t9 ht9 hW9 => ⟨f 0, rfl, by rw [← hm, show 5 - i = 0 by omega]; rfl, ht9⟩) (fun _ h => absurd h List.not_mem_nil) dX2_middleOfFirst_56
    · have c_4 : ¬ 5 ≤ i := fun h9 => c_4 ((nI_leI (a := 5) (b := i) (by omega) (by omega)).mpr h9)
      refine lv_aload_n hx hb dX2_middleOfFirst_7 rfl (lv_at hl 0 rfl) ?_
      refine lv_aload_n hx hb dX2_middleOfFirst_8 rfl (lv_at hl 0 rfl) ?_
      refine va_get (D := E.1) (ci := 2) (v := .ref a0) (C := RX2) (T := TX2) (N := 4) hx hb hts hinX2 hown hK hP 0 rfl rfl 0 (by decide) (hts (.fieldLink RX2 9 "WornRings$Load" "readings" "[I") (by decide +kernel)) (fun _ h9 => h9) rfl dX2_middleOfFirst_9 ?_
      refine lv_iload_n hx hb dX2_middleOfFirst_12 rfl (lv_at hl 1 rfl) ?_
      refine va_iald hx hb hK hP 1 1 rfl rfl (vp_in_nI (by omega) (by omega)) dX2_middleOfFirst_13 ?_
      rw [nI_clamp (n := i) (by omega)]
      refine lv_iconst (v := 1) hx hb dX2_middleOfFirst_14 (by decide) ?_
      refine rVi hE ⟨hx, hb, hml, hown, hts⟩ (c_X2_countFirst l E h0 a0 cn mid wr f (f i) 1 ) (cwV 2 hts gX2_middleOfFirst_X2_countFirst rfl rfl rfl (by decide +kernel) ⟨Nat.le_of_ble_eq_true rfl, Nat.le_of_ble_eq_true rfl⟩) (hP.sub [0, 1] rfl) 0 2 rfl rfl rfl hl.1 rfl (Nat.le_of_ble_eq_true rfl) dX2_middleOfFirst_15 ⟨(Nat.zero_le _), (Nat.zero_le _)⟩ ?_
      refine lv_iconst (v := 2) hx hb dX2_middleOfFirst_18 (by decide) ?_
      refine lv_icmp_gt (tgt := 44) hx hb dX2_middleOfFirst_19 (by decide) (fun c_19 => ?_) (fun c_19 => ?_)
      · have c_19 : 2 < (cnt (pLess f (f i) 1) 5) := (nI_ltI (a := 2) (b := cnt (pLess f (f i) 1) 5) (by omega) (by omega)).mp c_19
        refine lv_iinc (v := nI (i + 1)) (lv' := [(1, .int (nI (i + 1))), (0, .ref h0)]) hx hb dX2_middleOfFirst_44 hl (k := 1) rfl (nI_add i 1) (by decide) rfl (fun ls hl => ?_)
        refine lv_goto (tgt := 2) hx hb dX2_middleOfFirst_47 (by decide) ?_
        exact ih2 (i + 1) _ (by omega) (by omega) (by rw [← hm, show 5 - i = (5 - (i + 1)) + 1 by omega, fMidF, if_neg (by simp only [okMid, Bool.and_eq_true, decide_eq_true_eq]; omega)]) (lv_sub hl [1, 0] rfl)
      · have c_19 : ¬ 2 < (cnt (pLess f (f i) 1) 5) := fun h9 => c_19 ((nI_ltI (a := 2) (b := cnt (pLess f (f i) 1) 5) (by omega) (by omega)).mpr h9)
        refine lv_aload_n hx hb dX2_middleOfFirst_22 rfl (lv_at hl 0 rfl) ?_
        refine lv_aload_n hx hb dX2_middleOfFirst_23 rfl (lv_at hl 0 rfl) ?_
        refine va_get (D := E.1) (ci := 2) (v := .ref a0) (C := RX2) (T := TX2) (N := 4) hx hb hts hinX2 hown hK hP 0 rfl rfl 0 (by decide) (hts (.fieldLink RX2 9 "WornRings$Load" "readings" "[I") (by decide +kernel)) (fun _ h9 => h9) rfl dX2_middleOfFirst_24 ?_
        refine lv_iload_n hx hb dX2_middleOfFirst_27 rfl (lv_at hl 1 rfl) ?_
        refine va_iald hx hb hK hP 1 1 rfl rfl (vp_in_nI (by omega) (by omega)) dX2_middleOfFirst_28 ?_
        rw [nI_clamp (n := i) (by omega)]
        refine lv_iconst (v := 0) hx hb dX2_middleOfFirst_29 (by decide) ?_
        refine rVi hE ⟨hx, hb, hml, hown, hts⟩ (c_X2_countFirst l E h0 a0 cn mid wr f (f i) 0 ) (cwV 2 hts gX2_middleOfFirst_X2_countFirst rfl rfl rfl (by decide +kernel) ⟨Nat.le_of_ble_eq_true rfl, Nat.le_of_ble_eq_true rfl⟩) (hP.sub [0, 1] rfl) 0 2 rfl rfl rfl hl.1 rfl (Nat.le_of_ble_eq_true rfl) dX2_middleOfFirst_30 ⟨(Nat.zero_le _), (Nat.zero_le _)⟩ ?_
        refine lv_iconst (v := 2) hx hb dX2_middleOfFirst_33 (by decide) ?_
        refine lv_icmp_gt (tgt := 44) hx hb dX2_middleOfFirst_34 (by decide) (fun c_34 => ?_) (fun c_34 => ?_)
        · have c_34 : 2 < (cnt (pLess f (f i) 0) 5) := (nI_ltI (a := 2) (b := cnt (pLess f (f i) 0) 5) (by omega) (by omega)).mp c_34
          refine lv_iinc (v := nI (i + 1)) (lv' := [(1, .int (nI (i + 1))), (0, .ref h0)]) hx hb dX2_middleOfFirst_44 hl (k := 1) rfl (nI_add i 1) (by decide) rfl (fun ls hl => ?_)
          refine lv_goto (tgt := 2) hx hb dX2_middleOfFirst_47 (by decide) ?_
          exact ih2 (i + 1) _ (by omega) (by omega) (by rw [← hm, show 5 - i = (5 - (i + 1)) + 1 by omega, fMidF, if_neg (by simp only [okMid, Bool.and_eq_true, decide_eq_true_eq]; omega)]) (lv_sub hl [1, 0] rfl)
        · have c_34 : ¬ 2 < (cnt (pLess f (f i) 0) 5) := fun h9 => c_34 ((nI_ltI (a := 2) (b := cnt (pLess f (f i) 0) 5) (by omega) (by omega)).mpr h9)
          refine lv_aload_n hx hb dX2_middleOfFirst_37 rfl (lv_at hl 0 rfl) ?_
          refine va_get (D := E.1) (ci := 2) (v := .ref a0) (C := RX2) (T := TX2) (N := 4) hx hb hts hinX2 hown hK hP 0 rfl rfl 0 (by decide) (hts (.fieldLink RX2 9 "WornRings$Load" "readings" "[I") (by decide +kernel)) (fun _ h9 => h9) rfl dX2_middleOfFirst_38 ?_
          refine lv_iload_n hx hb dX2_middleOfFirst_41 rfl (lv_at hl 1 rfl) ?_
          refine va_iald hx hb hK hP 1 1 rfl rfl (vp_in_nI (by omega) (by omega)) dX2_middleOfFirst_42 ?_
          rw [nI_clamp (n := i) (by omega)]
          exact W.iret (v := f i) hx hb hr (fun t9 ht9 hW9 => ⟨f i, rfl, by rw [← hm, show 5 - i = (4 - i) + 1 by omega, fMidF, if_pos (by simp only [okMid, Bool.and_eq_true, decide_eq_true_eq]; omega)], ht9⟩) (fun _ h => absurd h List.not_mem_nil) dX2_middleOfFirst_43
set_option maxHeartbeats 1000000 in
set_option maxRecDepth 100000 in
theorem c_X2_latestAllAbove (l : Launch) (E : EnvT) (h0 : Nat) (a0 : Nat) (k : Nat) (mid : Int32) (wr : Int32) (f : Nat → Int32) (a : Int32) (u : Nat) (hk : 5 < k) (hk2 : k ≤ 200) (hu : 1 ≤ u) (hu2 : u ≤ 4) : Met l yX2_latestAllAbove wsX2_latestAllAbove ({ frames := 0, cells := 0, slots := 0, locals := 0 }) (va_Pc [.ref h0, .int a, .int (nI u)] (PR E [(h0, .inr (2, [.ref a0, .int (nI k), .int mid, .int wr])), (a0, .inl (E.2 1, 200, .inl f))])) (vp_Si (fun r => r = fLA f k u a mid)) 0 0 (fun _ => False) := by
  refine Met.ofW (cc := cX2_latestAllAbove) (maxL := 4) (ret := (some .boolean)) (by decide +kernel) rfl ?_
  intro p e s m args below meth c s₁ B hml hv
  obtain ⟨rfl, hP, hE⟩ := hv
  have hx := B.exec
  have hb := B.bytes
  have hr := B.returns
  have hts := atoms_spec (ws := wsX2_latestAllAbove) B.pre
  have hown : s.vm.findClass RX2 = some m.cls := findClass_of_methodNamed B.named
  have hlocks := B.notSynchronized
  have hK := hE.1
  have hNN := hE.2.1
  have hinX2 : ∀ w ∈ wsX20, w ∈ wsX2_latestAllAbove := fun w h => List.mem_cons_of_mem _ (List.mem_append_right _ h)
  have hl := lv_entry ([.ref h0, .int a, .int (nI u)]) (n := 4) (Nat.le_of_ble_eq_true rfl)
  rw [lg_entry_eq]
  generalize (lg_sl ([.ref h0, .int a, .int (nI u)]) ++ List.replicate (4 - (lg_sl ([.ref h0, .int a, .int (nI u)])).length) Slot.unset).toArray = ls at hl ⊢
  have hl : lv_has ls 4 [(0, .ref h0), (1, .int a), (2, .int (nI u))] := hl
  refine lv_aload_n hx hb dX2_latestAllAbove_0 rfl (lv_at hl 0 rfl) ?_
  refine va_get (D := E.1) (ci := 2) (v := .int (nI k)) (C := RX2) (T := TX2) (N := 4) hx hb hts hinX2 hown hK hP 0 rfl rfl 1 (by decide) (hts (.fieldLink RX2 15 "WornRings$Load" "count" "I") (by decide +kernel)) (fun _ h9 => h9) rfl dX2_latestAllAbove_1 ?_
  refine lv_iconst (v := 5) hx hb dX2_latestAllAbove_4 (by decide) ?_
  refine lv_isub hx hb dX2_latestAllAbove_5 ?_
  rw [show ((nI k) - (5 : Int32) : Int32) = nI (k - 5) from pk_sub (a := k) (b := 5) (by omega)]
  refine lv_iload_n hx hb dX2_latestAllAbove_6 rfl (lv_at hl 2 rfl) ?_
  refine lv_icmp_ge (tgt := 12) hx hb dX2_latestAllAbove_7 (by decide) (fun c_7 => ?_) (fun c_7 => ?_)
  · have c_7 : u ≤ (k - 5) := (nI_leI (a := u) (b := k - 5) (by omega) (by omega)).mp c_7
    refine lv_aload_n hx hb dX2_latestAllAbove_12 rfl (lv_at hl 0 rfl) ?_
    refine va_get (D := E.1) (ci := 2) (v := .int (nI k)) (C := RX2) (T := TX2) (N := 4) hx hb hts hinX2 hown hK hP 0 rfl rfl 1 (by decide) (hts (.fieldLink RX2 15 "WornRings$Load" "count" "I") (by decide +kernel)) (fun _ h9 => h9) rfl dX2_latestAllAbove_13 ?_
    refine lv_iload_n hx hb dX2_latestAllAbove_16 rfl (lv_at hl 2 rfl) ?_
    refine lv_isub hx hb dX2_latestAllAbove_17 ?_
    rw [show ((nI k) - (nI u) : Int32) = nI (k - u) from pk_sub (a := k) (b := u) (by omega)]
    refine lv_istore_n (lv' := [(3, .int (nI (k - u))), (0, .ref h0), (1, .int a), (2, .int (nI u))]) hx hb dX2_latestAllAbove_18 rfl hl (by decide) rfl (fun ls hl => ?_)
    refine (fun (lp19 : ∀ (n9 : Nat) (i : Nat) (ls : Array Slot), (k - i) < n9 → (i ≤ k) → (k - u ≤ i) → (allA f a mid (k - i) i = allA f a mid u (k - u)) → lv_has ls 4 [(0, .ref h0), (1, .int a), (2, .int (nI u)), (3, .int (nI i))] → W p l e _ s m _ below meth c s.heap [] _ _ _ (F0 m 19 ls [])) => lp19 (k + 1) (k - u) _ (by omega) (by omega) (by omega) (by rw [show k - (k - u) = u by omega]) (lv_sub hl [1, 2, 3, 0] rfl)) ?_
    intro n19
    induction n19 with
    | zero => intro i ls h0; exact absurd (by assumption) (Nat.not_lt_zero _)
    | succ n19 ih19 =>
      intro i ls hmu19 hi hi2 hm hl
      refine lv_iload_n hx hb dX2_latestAllAbove_19 rfl (lv_at hl 3 rfl) ?_
      refine lv_aload_n hx hb dX2_latestAllAbove_20 rfl (lv_at hl 0 rfl) ?_
      refine va_get (D := E.1) (ci := 2) (v := .int (nI k)) (C := RX2) (T := TX2) (N := 4) hx hb hts hinX2 hown hK hP 0 rfl rfl 1 (by decide) (hts (.fieldLink RX2 15 "WornRings$Load" "count" "I") (by decide +kernel)) (fun _ h9 => h9) rfl dX2_latestAllAbove_21 ?_
      refine lv_icmp_ge (tgt := 58) hx hb dX2_latestAllAbove_24 (by decide) (fun c_24 => ?_) (fun c_24 => ?_)
      · have c_24 : k ≤ i := (nI_leI (a := k) (b := i) (by omega) (by omega)).mp c_24
        refine lv_iconst (v := 1) hx hb dX2_latestAllAbove_58 (by decide) ?_
        exact W.zret (v := 1) hx hb hr (rfl) (fun t9 ht9 hW9 => ⟨1, rfl, by rw [fLA, if_pos ⟨by omega, by rw [← hm, show k - i = 0 by omega]; rfl⟩], ht9⟩) (fun _ h => absurd h List.not_mem_nil) dX2_latestAllAbove_59
      · have c_24 : ¬ k ≤ i := fun h9 => c_24 ((nI_leI (a := k) (b := i) (by omega) (by omega)).mpr h9)
        refine lv_aload_n hx hb dX2_latestAllAbove_27 rfl (lv_at hl 0 rfl) ?_
        refine va_get (D := E.1) (ci := 2) (v := .ref a0) (C := RX2) (T := TX2) (N := 4) hx hb hts hinX2 hown hK hP 0 rfl rfl 0 (by decide) (hts (.fieldLink RX2 9 "WornRings$Load" "readings" "[I") (by decide +kernel)) (fun _ h9 => h9) rfl dX2_latestAllAbove_28 ?_
        refine lv_iload_n hx hb dX2_latestAllAbove_31 rfl (lv_at hl 3 rfl) ?_
        refine va_iald hx hb hK hP 1 1 rfl rfl (vp_in_nI (by omega) (by omega)) dX2_latestAllAbove_32 ?_
        rw [nI_clamp (n := i) (by omega)]
        refine lv_i2l (v := (f i).toInt64) hx hb dX2_latestAllAbove_33 (rfl) ?_
        refine lv_ldc2 (v := 100) hx hb hown (hts (.constantLong RX2 34 (100)) (by decide +kernel)) dX2_latestAllAbove_34 ?_
        refine lv_lmul hx hb dX2_latestAllAbove_37 ?_
        refine lv_iload_n hx hb dX2_latestAllAbove_38 rfl (lv_at hl 1 rfl) ?_
        refine lv_i2l (v := a.toInt64) hx hb dX2_latestAllAbove_39 (rfl) ?_
        refine lv_aload_n hx hb dX2_latestAllAbove_40 rfl (lv_at hl 0 rfl) ?_
        refine va_get (D := E.1) (ci := 2) (v := .int mid) (C := RX2) (T := TX2) (N := 4) hx hb hts hinX2 hown hK hP 0 rfl rfl 2 (by decide) (hts (.fieldLink RX2 23 "WornRings$Load" "middle" "I") (by decide +kernel)) (fun _ h9 => h9) rfl dX2_latestAllAbove_41 ?_
        refine lv_i2l (v := mid.toInt64) hx hb dX2_latestAllAbove_44 (rfl) ?_
        refine lv_lmul hx hb dX2_latestAllAbove_45 ?_
        refine W.lcmp hx hb dX2_latestAllAbove_46 ?_
        refine lv_if_gt (tgt := 52) hx hb dX2_latestAllAbove_47 (by decide) (fun c_47 => ?_) (fun c_47 => ?_)
        · have c_47 := lc_gt c_47
          refine lv_iinc (v := nI (i + 1)) (lv' := [(3, .int (nI (i + 1))), (0, .ref h0), (1, .int a), (2, .int (nI u))]) hx hb dX2_latestAllAbove_52 hl (k := 3) rfl (nI_add i 1) (by decide) rfl (fun ls hl => ?_)
          refine lv_goto (tgt := 19) hx hb dX2_latestAllAbove_55 (by decide) ?_
          exact ih19 (i + 1) _ (by omega) (by omega) (by omega) (by rw [← hm, show k - i = (k - (i + 1)) + 1 by omega, allA, decide_eq_true c_47, Bool.true_and]) (lv_sub hl [1, 2, 3, 0] rfl)
        · have c_47 := lc_gt_n c_47
          refine lv_iconst (v := 0) hx hb dX2_latestAllAbove_50 (by decide) ?_
          exact W.zret (v := 0) hx hb hr (rfl) (fun t9 ht9 hW9 => ⟨0, rfl, by rw [fLA, if_neg (fun h9 => by rw [← hm, show k - i = (k - (i + 1)) + 1 by omega, allA, decide_eq_false c_47, Bool.false_and] at h9; exact Bool.noConfusion h9.2)], ht9⟩) (fun _ h => absurd h List.not_mem_nil) dX2_latestAllAbove_51
  · have c_7 : ¬ u ≤ (k - 5) := fun h9 => c_7 ((nI_leI (a := u) (b := k - 5) (by omega) (by omega)).mpr h9)
    refine lv_iconst (v := 0) hx hb dX2_latestAllAbove_10 (by decide) ?_
    exact W.zret (v := 0) hx hb hr (rfl) (fun t9 ht9 hW9 => ⟨0, rfl, by rw [fLA, if_neg (by omega)], ht9⟩) (fun _ h => absurd h List.not_mem_nil) dX2_latestAllAbove_11
set_option maxHeartbeats 1000000 in
set_option maxRecDepth 100000 in
theorem c_X2_judge (l : Launch) (E : EnvT) (sz : Nat) (h0 : Nat) (a0 : Nat) (k : Nat) (mid : Int32) (wr : Int32) (f : Nat → Int32) (a : Int32) (b : Int32) (u : Nat) (hk2 : k ≤ 200) (hu : 1 ≤ u) (hu2 : u ≤ 4) : Met l yX2_judge wsX2_judge ({ frames := 1, cells := 0, slots := 0, locals := 23 }) (va_Pc [.ref h0, .int a, .int b, .int (nI u)] (PW E [(h0, .inr (2, [.ref a0, .int (nI k), .int mid, .int wr])), (a0, .inl (E.2 1, 200, .inl f))] sz)) (va_Qv (fun (uu : Unit) => True) (fun (uu : Unit) t => BW E (va_A [(h0, .inr (2, [.ref a0, .int (nI k), .int mid, .int wr])), (a0, .inl (E.2 1, 200, .inl f))] sz) [(h0, .inr (2, [.ref a0, .int (nI k), .int mid, .int (fJud f k u a b mid wr)])), (a0, .inl (E.2 1, 200, .inl f))] t) (va_A [(h0, .inr (2, [.ref a0, .int (nI k), .int mid, .int wr])), (a0, .inl (E.2 1, 200, .inl f))] sz)) 0 0 (va_A [(h0, .inr (2, [.ref a0, .int (nI k), .int mid, .int wr])), (a0, .inl (E.2 1, 200, .inl f))] sz) := by
  refine Met.ofW (cc := cX2_judge) (maxL := 4) (ret := none) (by decide +kernel) rfl ?_
  intro p e s m args below meth c s₁ B hml hv
  obtain ⟨rfl, hsz, hP, hE, hD0⟩ := hv
  have hx := B.exec
  have hb := B.bytes
  have hr := B.returns
  have hts := atoms_spec (ws := wsX2_judge) B.pre
  have hown : s.vm.findClass RX2 = some m.cls := findClass_of_methodNamed B.named
  have hlocks := B.notSynchronized
  have hK := hE.1
  have hNN := hE.2.1
  have hinX2 : ∀ w ∈ wsX20, w ∈ wsX2_judge := fun w h => List.mem_cons_of_mem _ (List.mem_append_right _ h)
  subst hsz
  have hD := hD0.self (sz := s.heap.size)
  generalize hAe : va_A [(h0, .inr (2, [.ref a0, .int (nI k), .int mid, .int wr])), (a0, .inl (E.2 1, 200, .inl f))] s.heap.size = A at hD ⊢
  have hA : ∀ q : Nat, s.heap.size ≤ q → A q := fun q h => by rw [← hAe]; exact Or.inr h
  have hS : va_S A s.heap s.heap [] := va_S.rf
  have hl := lv_entry ([.ref h0, .int a, .int b, .int (nI u)]) (n := 4) (Nat.le_of_ble_eq_true rfl)
  rw [lg_entry_eq]
  generalize (lg_sl ([.ref h0, .int a, .int b, .int (nI u)]) ++ List.replicate (4 - (lg_sl ([.ref h0, .int a, .int b, .int (nI u)])).length) Slot.unset).toArray = ls at hl ⊢
  have hl : lv_has ls 4 [(0, .ref h0), (1, .int a), (2, .int b), (3, .int (nI u))] := hl
  refine lv_aload_n hx hb dX2_judge_0 rfl (lv_at hl 0 rfl) ?_
  refine va_get (D := E.1) (ci := 2) (v := .int (nI k)) (C := RX2) (T := TX2) (N := 4) hx hb hts hinX2 hown hK hP 0 rfl rfl 1 (by decide) (hts (.fieldLink RX2 15 "WornRings$Load" "count" "I") (by decide +kernel)) (fun _ h9 => h9) rfl dX2_judge_1 ?_
  refine lv_iconst (v := 5) hx hb dX2_judge_4 (by decide) ?_
  refine lv_icmp_gt (tgt := 9) hx hb dX2_judge_5 (by decide) (fun c_5 => ?_) (fun c_5 => ?_)
  · have c_5 : 5 < k := (nI_ltI (a := 5) (b := k) (by omega) (by omega)).mp c_5
    refine lv_aload_n hx hb dX2_judge_9 rfl (lv_at hl 0 rfl) ?_
    refine lv_iload_n hx hb dX2_judge_10 rfl (lv_at hl 1 rfl) ?_
    refine lv_iload_n hx hb dX2_judge_11 rfl (lv_at hl 3 rfl) ?_
    refine rVi hE ⟨hx, hb, hml, hown, hts⟩ (c_X2_latestAllAbove l E h0 a0 k mid wr f a u (by first | assumption | omega) (by first | assumption | omega) (by first | assumption | omega) (by first | assumption | omega)) (cwV 2 hts gX2_judge_X2_latestAllAbove rfl rfl rfl (by decide +kernel) ⟨Nat.le_of_ble_eq_true rfl, Nat.le_of_ble_eq_true rfl⟩) (hP.sub [0, 1] rfl) 0 2 rfl rfl rfl hl.1 rfl (Nat.le_of_ble_eq_true rfl) dX2_judge_12 ⟨(Nat.zero_le _), (Nat.zero_le _)⟩ ?_
    refine lv_if_eq (tgt := 26) hx hb dX2_judge_15 (by decide) (fun c_15 => ?_) (fun c_15 => ?_)
    · have c_15 := fLA_0 c_15
      refine lv_aload_n hx hb dX2_judge_26 rfl (lv_at hl 0 rfl) ?_
      refine va_get (D := E.1) (ci := 2) (v := .ref a0) (C := RX2) (T := TX2) (N := 4) hx hb hts hinX2 hown hK hP 0 rfl rfl 0 (by decide) (hts (.fieldLink RX2 9 "WornRings$Load" "readings" "[I") (by decide +kernel)) (fun _ h9 => h9) rfl dX2_judge_27 ?_
      refine lv_aload_n hx hb dX2_judge_30 rfl (lv_at hl 0 rfl) ?_
      refine va_get (D := E.1) (ci := 2) (v := .int (nI k)) (C := RX2) (T := TX2) (N := 4) hx hb hts hinX2 hown hK hP 0 rfl rfl 1 (by decide) (hts (.fieldLink RX2 15 "WornRings$Load" "count" "I") (by decide +kernel)) (fun _ h9 => h9) rfl dX2_judge_31 ?_
      refine lv_iconst (v := 1) hx hb dX2_judge_34 (by decide) ?_
      refine lv_isub hx hb dX2_judge_35 ?_
      rw [show ((nI k) - (1 : Int32) : Int32) = nI (k - 1) from pk_sub (a := k) (b := 1) (by omega)]
      refine va_iald hx hb hK hP 1 1 rfl rfl (vp_in_nI (by omega) (by omega)) dX2_judge_36 ?_
      rw [nI_clamp (n := k - 1) (by omega)]
      refine lv_i2l (v := (f (k - 1)).toInt64) hx hb dX2_judge_37 (rfl) ?_
      refine lv_ldc2 (v := 100) hx hb hown (hts (.constantLong RX2 34 (100)) (by decide +kernel)) dX2_judge_38 ?_
      refine lv_lmul hx hb dX2_judge_41 ?_
      refine lv_iload_n hx hb dX2_judge_42 rfl (lv_at hl 2 rfl) ?_
      refine lv_i2l (v := b.toInt64) hx hb dX2_judge_43 (rfl) ?_
      refine lv_aload_n hx hb dX2_judge_44 rfl (lv_at hl 0 rfl) ?_
      refine va_get (D := E.1) (ci := 2) (v := .int mid) (C := RX2) (T := TX2) (N := 4) hx hb hts hinX2 hown hK hP 0 rfl rfl 2 (by decide) (hts (.fieldLink RX2 23 "WornRings$Load" "middle" "I") (by decide +kernel)) (fun _ h9 => h9) rfl dX2_judge_45 ?_
      refine lv_i2l (v := mid.toInt64) hx hb dX2_judge_48 (rfl) ?_
      refine lv_lmul hx hb dX2_judge_49 ?_
      refine W.lcmp hx hb dX2_judge_50 ?_
      refine lv_if_ge (tgt := 59) hx hb dX2_judge_51 (by decide) (fun c_51 => ?_) (fun c_51 => ?_)
      · have c_51 := lc_ge c_51
        have c_51 := Int64.not_lt.mpr c_51
        have e9 : ([(h0, .inr (2, [.ref a0, .int (nI k), .int mid, .int (fJud f k u a b mid wr)])), (a0, .inl (E.2 1, 200, .inl f))] : va_W) = [(h0, .inr (2, [.ref a0, .int (nI k), .int mid, .int wr])), (a0, .inl (E.2 1, 200, .inl f))] := by simp only [fJud]; first | rw [if_pos (by omega)] | rw [if_neg (by omega), if_pos c_15] | rw [if_neg (by omega), if_neg c_15, if_pos c_51] | rw [if_neg (by omega), if_neg c_15, if_neg c_51]
        have hP9 : va_P E.1 vwCl [(h0, .inr (2, [.ref a0, .int (nI k), .int mid, .int (fJud f k u a b mid wr)])), (a0, .inl (E.2 1, 200, .inl f))] s.heap := by rw [e9]; exact hP.sub [0, 1] rfl
        have hD9 : va_D A [(h0, .inr (2, [.ref a0, .int (nI k), .int mid, .int (fJud f k u a b mid wr)])), (a0, .inl (E.2 1, 200, .inl f))] := by rw [e9]; exact hD.sub [0, 1] (by decide) rfl
        exact W.vret hx hb hr (fun t9 ht9 hW9 => ⟨⟨(), rfl, trivial, ⟨by rw [ht9]; exact hP9, hD9⟩⟩, hS.F ht9⟩) hS.2.2 dX2_judge_59
      · have c_51 := lc_ge_n c_51
        have c_51 := Int64.not_le.mp c_51
        refine lv_aload_n hx hb dX2_judge_54 rfl (lv_at hl 0 rfl) ?_
        refine lv_iconst (v := 0) hx hb dX2_judge_55 (by decide) ?_
        refine va_put (D := E.1) (ci := 2) (v := .int 0) (ty := .boolean) (C := RX2) (T := TX2) (N := 4) hx hb hts hinX2 tyX2 tyX2_ok nmX2 hown hK hP hD hS 0 rfl rfl 3 (by decide) (hts (.fieldLink RX2 26 "WornRings$Load" "warning" "Z") (by decide +kernel)) (fun _ h9 => h9) rfl (by decide +kernel) (rfl) (rfl) (Nat.le_of_ble_eq_true rfl) dX2_judge_56 (fun H locs hP hD hS => ?_)
        have hP : va_P E.1 vwCl [(h0, .inr (2, [.ref a0, .int (nI k), .int mid, .int 0])), (a0, .inl (E.2 1, 200, .inl f))] H := hP
        have hD : va_D A [(h0, .inr (2, [.ref a0, .int (nI k), .int mid, .int 0])), (a0, .inl (E.2 1, 200, .inl f))] := hD
        have e9 : ([(h0, .inr (2, [.ref a0, .int (nI k), .int mid, .int (fJud f k u a b mid wr)])), (a0, .inl (E.2 1, 200, .inl f))] : va_W) = [(h0, .inr (2, [.ref a0, .int (nI k), .int mid, .int 0])), (a0, .inl (E.2 1, 200, .inl f))] := by simp only [fJud]; first | rw [if_pos (by omega)] | rw [if_neg (by omega), if_pos c_15] | rw [if_neg (by omega), if_neg c_15, if_pos c_51] | rw [if_neg (by omega), if_neg c_15, if_neg c_51]
        have hP9 : va_P E.1 vwCl [(h0, .inr (2, [.ref a0, .int (nI k), .int mid, .int (fJud f k u a b mid wr)])), (a0, .inl (E.2 1, 200, .inl f))] H := by rw [e9]; exact hP.sub [0, 1] rfl
        have hD9 : va_D A [(h0, .inr (2, [.ref a0, .int (nI k), .int mid, .int (fJud f k u a b mid wr)])), (a0, .inl (E.2 1, 200, .inl f))] := by rw [e9]; exact hD.sub [0, 1] (by decide) rfl
        exact W.vret hx hb hr (fun t9 ht9 hW9 => ⟨⟨(), rfl, trivial, ⟨by rw [ht9]; exact hP9, hD9⟩⟩, hS.F ht9⟩) hS.2.2 dX2_judge_59
    · have c_15 := fLA_1 c_15
      refine lv_aload_n hx hb dX2_judge_18 rfl (lv_at hl 0 rfl) ?_
      refine lv_iconst (v := 1) hx hb dX2_judge_19 (by decide) ?_
      refine va_put (D := E.1) (ci := 2) (v := .int 1) (ty := .boolean) (C := RX2) (T := TX2) (N := 4) hx hb hts hinX2 tyX2 tyX2_ok nmX2 hown hK hP hD hS 0 rfl rfl 3 (by decide) (hts (.fieldLink RX2 26 "WornRings$Load" "warning" "Z") (by decide +kernel)) (fun _ h9 => h9) rfl (by decide +kernel) (rfl) (rfl) (Nat.le_of_ble_eq_true rfl) dX2_judge_20 (fun H locs hP hD hS => ?_)
      have hP : va_P E.1 vwCl [(h0, .inr (2, [.ref a0, .int (nI k), .int mid, .int 1])), (a0, .inl (E.2 1, 200, .inl f))] H := hP
      have hD : va_D A [(h0, .inr (2, [.ref a0, .int (nI k), .int mid, .int 1])), (a0, .inl (E.2 1, 200, .inl f))] := hD
      refine lv_goto (tgt := 59) hx hb dX2_judge_23 (by decide) ?_
      have e9 : ([(h0, .inr (2, [.ref a0, .int (nI k), .int mid, .int (fJud f k u a b mid wr)])), (a0, .inl (E.2 1, 200, .inl f))] : va_W) = [(h0, .inr (2, [.ref a0, .int (nI k), .int mid, .int 1])), (a0, .inl (E.2 1, 200, .inl f))] := by simp only [fJud]; first | rw [if_pos (by omega)] | rw [if_neg (by omega), if_pos c_15] | rw [if_neg (by omega), if_neg c_15, if_pos c_51] | rw [if_neg (by omega), if_neg c_15, if_neg c_51]
      have hP9 : va_P E.1 vwCl [(h0, .inr (2, [.ref a0, .int (nI k), .int mid, .int (fJud f k u a b mid wr)])), (a0, .inl (E.2 1, 200, .inl f))] H := by rw [e9]; exact hP.sub [0, 1] rfl
      have hD9 : va_D A [(h0, .inr (2, [.ref a0, .int (nI k), .int mid, .int (fJud f k u a b mid wr)])), (a0, .inl (E.2 1, 200, .inl f))] := by rw [e9]; exact hD.sub [0, 1] (by decide) rfl
      exact W.vret hx hb hr (fun t9 ht9 hW9 => ⟨⟨(), rfl, trivial, ⟨by rw [ht9]; exact hP9, hD9⟩⟩, hS.F ht9⟩) hS.2.2 dX2_judge_59
  · have c_5 : ¬ 5 < k := fun h9 => c_5 ((nI_ltI (a := 5) (b := k) (by omega) (by omega)).mpr h9)
    have e9 : ([(h0, .inr (2, [.ref a0, .int (nI k), .int mid, .int (fJud f k u a b mid wr)])), (a0, .inl (E.2 1, 200, .inl f))] : va_W) = [(h0, .inr (2, [.ref a0, .int (nI k), .int mid, .int wr])), (a0, .inl (E.2 1, 200, .inl f))] := by simp only [fJud]; first | rw [if_pos (by omega)] | rw [if_neg (by omega), if_pos c_15] | rw [if_neg (by omega), if_neg c_15, if_pos c_51] | rw [if_neg (by omega), if_neg c_15, if_neg c_51]
    have hP9 : va_P E.1 vwCl [(h0, .inr (2, [.ref a0, .int (nI k), .int mid, .int (fJud f k u a b mid wr)])), (a0, .inl (E.2 1, 200, .inl f))] s.heap := by rw [e9]; exact hP.sub [0, 1] rfl
    have hD9 : va_D A [(h0, .inr (2, [.ref a0, .int (nI k), .int mid, .int (fJud f k u a b mid wr)])), (a0, .inl (E.2 1, 200, .inl f))] := by rw [e9]; exact hD.sub [0, 1] (by decide) rfl
    exact W.vret hx hb hr (fun t9 ht9 hW9 => ⟨⟨(), rfl, trivial, ⟨by rw [ht9]; exact hP9, hD9⟩⟩, hS.F ht9⟩) hS.2.2 dX2_judge_8
set_option maxHeartbeats 1000000 in
set_option maxRecDepth 100000 in
theorem c_X2_add (l : Launch) (E : EnvT) (sz : Nat) (h0 : Nat) (a0 : Nat) (k : Nat) (mid : Int32) (wr : Int32) (f : Nat → Int32) (v : Int32) (hk : k < 200) : Met l yX2_add wsX2_add ({ frames := 2, cells := 0, slots := 0, locals := 45 }) (va_Pc [.ref h0, .int v] (PW E [(h0, .inr (2, [.ref a0, .int (nI k), .int mid, .int wr])), (a0, .inl (E.2 1, 200, .inl f))] sz)) (va_Qv (fun (uu : Unit) => True) (fun (uu : Unit) t => BW E (va_A [(h0, .inr (2, [.ref a0, .int (nI k), .int mid, .int wr])), (a0, .inl (E.2 1, 200, .inl f))] sz) [(h0, .inr (2, [.ref a0, .int (nI (k + 1)), .int (if k + 1 = 5 then fMid (upd f k v) else mid), .int wr])), (a0, .inl (E.2 1, 200, .inl (upd f k v)))] t) (va_A [(h0, .inr (2, [.ref a0, .int (nI k), .int mid, .int wr])), (a0, .inl (E.2 1, 200, .inl f))] sz)) 0 0 (va_A [(h0, .inr (2, [.ref a0, .int (nI k), .int mid, .int wr])), (a0, .inl (E.2 1, 200, .inl f))] sz) := by
  refine Met.ofW (cc := cX2_add) (maxL := 2) (ret := none) (by decide +kernel) rfl ?_
  intro p e s m args below meth c s₁ B hml hv
  obtain ⟨rfl, hsz, hP, hE, hD0⟩ := hv
  have hx := B.exec
  have hb := B.bytes
  have hr := B.returns
  have hts := atoms_spec (ws := wsX2_add) B.pre
  have hown : s.vm.findClass RX2 = some m.cls := findClass_of_methodNamed B.named
  have hlocks := B.notSynchronized
  have hK := hE.1
  have hNN := hE.2.1
  have hinX2 : ∀ w ∈ wsX20, w ∈ wsX2_add := fun w h => List.mem_cons_of_mem _ (List.mem_append_right _ h)
  subst hsz
  have hD := hD0.self (sz := s.heap.size)
  generalize hAe : va_A [(h0, .inr (2, [.ref a0, .int (nI k), .int mid, .int wr])), (a0, .inl (E.2 1, 200, .inl f))] s.heap.size = A at hD ⊢
  have hA : ∀ q : Nat, s.heap.size ≤ q → A q := fun q h => by rw [← hAe]; exact Or.inr h
  have hS : va_S A s.heap s.heap [] := va_S.rf
  have hl := lv_entry ([.ref h0, .int v]) (n := 2) (Nat.le_of_ble_eq_true rfl)
  rw [lg_entry_eq]
  generalize (lg_sl ([.ref h0, .int v]) ++ List.replicate (2 - (lg_sl ([.ref h0, .int v])).length) Slot.unset).toArray = ls at hl ⊢
  have hl : lv_has ls 2 [(0, .ref h0), (1, .int v)] := hl
  refine lv_aload_n hx hb dX2_add_0 rfl (lv_at hl 0 rfl) ?_
  refine va_get (D := E.1) (ci := 2) (v := .int (nI k)) (C := RX2) (T := TX2) (N := 4) hx hb hts hinX2 hown hK hP 0 rfl rfl 1 (by decide) (hts (.fieldLink RX2 15 "WornRings$Load" "count" "I") (by decide +kernel)) (fun _ h9 => h9) rfl dX2_add_1 ?_
  refine lv_sipush (v := 200) hx hb dX2_add_4 (by decide) ?_
  refine lv_icmp_lt (tgt := 11) hx hb dX2_add_7 (by decide) (fun c_7 => ?_) (fun c_7 => by exfalso; have c_7 : ¬ k < 200 := fun h9 => c_7 ((nI_ltI (a := k) (b := 200) (by omega) (by omega)).mpr h9); omega)
  have c_7 : k < 200 := (nI_ltI (a := k) (b := 200) (by omega) (by omega)).mp c_7
  refine lv_aload_n hx hb dX2_add_11 rfl (lv_at hl 0 rfl) ?_
  refine va_get (D := E.1) (ci := 2) (v := .ref a0) (C := RX2) (T := TX2) (N := 4) hx hb hts hinX2 hown hK hP 0 rfl rfl 0 (by decide) (hts (.fieldLink RX2 9 "WornRings$Load" "readings" "[I") (by decide +kernel)) (fun _ h9 => h9) rfl dX2_add_12 ?_
  refine lv_aload_n hx hb dX2_add_15 rfl (lv_at hl 0 rfl) ?_
  refine va_get (D := E.1) (ci := 2) (v := .int (nI k)) (C := RX2) (T := TX2) (N := 4) hx hb hts hinX2 hown hK hP 0 rfl rfl 1 (by decide) (hts (.fieldLink RX2 15 "WornRings$Load" "count" "I") (by decide +kernel)) (fun _ h9 => h9) rfl dX2_add_16 ?_
  refine lv_iload_n hx hb dX2_add_19 rfl (lv_at hl 1 rfl) ?_
  refine va_iast hx hb hK hP hD hS 1 1 rfl rfl (vp_in_nI (by omega) (by omega)) dX2_add_20 (fun H locs hP hD hS => ?_)
  rw [nI_clamp (n := k) (by omega)] at hP hD
  have hP : va_P E.1 vwCl [(h0, .inr (2, [.ref a0, .int (nI k), .int mid, .int wr])), (a0, .inl (E.2 1, 200, .inl (upd f k v)))] H := hP
  have hD : va_D A [(h0, .inr (2, [.ref a0, .int (nI k), .int mid, .int wr])), (a0, .inl (E.2 1, 200, .inl (upd f k v)))] := hD
  refine lv_aload_n hx hb dX2_add_21 rfl (lv_at hl 0 rfl) ?_
  refine lv_dup hx hb dX2_add_22 rfl ?_
  refine va_get (D := E.1) (ci := 2) (v := .int (nI k)) (C := RX2) (T := TX2) (N := 4) hx hb hts hinX2 hown hK hP 0 rfl rfl 1 (by decide) (hts (.fieldLink RX2 15 "WornRings$Load" "count" "I") (by decide +kernel)) (fun _ h9 => h9) rfl dX2_add_23 ?_
  refine lv_iconst (v := 1) hx hb dX2_add_26 (by decide) ?_
  refine lv_iadd hx hb dX2_add_27 ?_
  rw [show ((nI k) + (1 : Int32) : Int32) = nI (k + 1) from nI_add k 1]
  refine va_put (D := E.1) (ci := 2) (v := .int (nI (k + 1))) (ty := .int) (C := RX2) (T := TX2) (N := 4) hx hb hts hinX2 tyX2 tyX2_ok nmX2 hown hK hP hD hS 0 rfl rfl 1 (by decide) (hts (.fieldLink RX2 15 "WornRings$Load" "count" "I") (by decide +kernel)) (fun _ h9 => h9) rfl (by decide +kernel) (rfl) (rfl) (Nat.le_of_ble_eq_true rfl) dX2_add_28 (fun H locs hP hD hS => ?_)
  have hP : va_P E.1 vwCl [(h0, .inr (2, [.ref a0, .int (nI (k + 1)), .int mid, .int wr])), (a0, .inl (E.2 1, 200, .inl (upd f k v)))] H := hP
  have hD : va_D A [(h0, .inr (2, [.ref a0, .int (nI (k + 1)), .int mid, .int wr])), (a0, .inl (E.2 1, 200, .inl (upd f k v)))] := hD
  refine lv_aload_n hx hb dX2_add_31 rfl (lv_at hl 0 rfl) ?_
  refine va_get (D := E.1) (ci := 2) (v := .int (nI (k + 1))) (C := RX2) (T := TX2) (N := 4) hx hb hts hinX2 hown hK hP 0 rfl rfl 1 (by decide) (hts (.fieldLink RX2 15 "WornRings$Load" "count" "I") (by decide +kernel)) (fun _ h9 => h9) rfl dX2_add_32 ?_
  refine lv_iconst (v := 5) hx hb dX2_add_35 (by decide) ?_
  refine lv_icmp_ne (tgt := 47) hx hb dX2_add_36 (by decide) (fun c_36 => ?_) (fun c_36 => ?_)
  · have c_36 : ¬ (k + 1) = 5 := fun h9 => c_36 ((nI_eq (a := k + 1) (b := 5) (by omega) (by omega)).mpr h9)
    have e9 : ([(h0, .inr (2, [.ref a0, .int (nI (k + 1)), .int (if k + 1 = 5 then fMid (upd f k v) else mid), .int wr])), (a0, .inl (E.2 1, 200, .inl (upd f k v)))] : va_W) = [(h0, .inr (2, [.ref a0, .int (nI (k + 1)), .int mid, .int wr])), (a0, .inl (E.2 1, 200, .inl (upd f k v)))] := by first | rw [if_pos c_36] | rw [if_neg c_36]
    have hP9 : va_P E.1 vwCl [(h0, .inr (2, [.ref a0, .int (nI (k + 1)), .int (if k + 1 = 5 then fMid (upd f k v) else mid), .int wr])), (a0, .inl (E.2 1, 200, .inl (upd f k v)))] H := by rw [e9]; exact hP.sub [0, 1] rfl
    have hD9 : va_D A [(h0, .inr (2, [.ref a0, .int (nI (k + 1)), .int (if k + 1 = 5 then fMid (upd f k v) else mid), .int wr])), (a0, .inl (E.2 1, 200, .inl (upd f k v)))] := by rw [e9]; exact hD.sub [0, 1] (by decide) rfl
    exact W.vret hx hb hr (fun t9 ht9 hW9 => ⟨⟨(), rfl, trivial, ⟨by rw [ht9]; exact hP9, hD9⟩⟩, hS.F ht9⟩) hS.2.2 dX2_add_47
  · have c_36 : (k + 1) = 5 := (nI_eq (a := k + 1) (b := 5) (by omega) (by omega)).mp c_36
    refine lv_aload_n hx hb dX2_add_39 rfl (lv_at hl 0 rfl) ?_
    refine lv_aload_n hx hb dX2_add_40 rfl (lv_at hl 0 rfl) ?_
    refine rVi hE ⟨hx, hb, hml, hown, hts⟩ (c_X2_middleOfFirst l E h0 a0 (nI (k + 1)) mid wr (upd f k v) ) (cwV 0 hts gX2_add_X2_middleOfFirst rfl rfl rfl (by decide +kernel) ⟨Nat.le_of_ble_eq_true rfl, Nat.le_of_ble_eq_true rfl⟩) (hP.sub [0, 1] rfl) 0 2 rfl rfl rfl hl.1 rfl (Nat.le_of_ble_eq_true rfl) dX2_add_41 ⟨(Nat.zero_le _), (Nat.zero_le _)⟩ ?_
    refine va_put (D := E.1) (ci := 2) (v := .int (fMid (upd f k v))) (ty := .int) (C := RX2) (T := TX2) (N := 4) hx hb hts hinX2 tyX2 tyX2_ok nmX2 hown hK hP hD hS 0 rfl rfl 2 (by decide) (hts (.fieldLink RX2 23 "WornRings$Load" "middle" "I") (by decide +kernel)) (fun _ h9 => h9) rfl (by decide +kernel) (rfl) (rfl) (Nat.le_of_ble_eq_true rfl) dX2_add_44 (fun H locs hP hD hS => ?_)
    have hP : va_P E.1 vwCl [(h0, .inr (2, [.ref a0, .int (nI (k + 1)), .int (fMid (upd f k v)), .int wr])), (a0, .inl (E.2 1, 200, .inl (upd f k v)))] H := hP
    have hD : va_D A [(h0, .inr (2, [.ref a0, .int (nI (k + 1)), .int (fMid (upd f k v)), .int wr])), (a0, .inl (E.2 1, 200, .inl (upd f k v)))] := hD
    have e9 : ([(h0, .inr (2, [.ref a0, .int (nI (k + 1)), .int (if k + 1 = 5 then fMid (upd f k v) else mid), .int wr])), (a0, .inl (E.2 1, 200, .inl (upd f k v)))] : va_W) = [(h0, .inr (2, [.ref a0, .int (nI (k + 1)), .int (fMid (upd f k v)), .int wr])), (a0, .inl (E.2 1, 200, .inl (upd f k v)))] := by first | rw [if_pos c_36] | rw [if_neg c_36]
    have hP9 : va_P E.1 vwCl [(h0, .inr (2, [.ref a0, .int (nI (k + 1)), .int (if k + 1 = 5 then fMid (upd f k v) else mid), .int wr])), (a0, .inl (E.2 1, 200, .inl (upd f k v)))] H := by rw [e9]; exact hP.sub [0, 1] rfl
    have hD9 : va_D A [(h0, .inr (2, [.ref a0, .int (nI (k + 1)), .int (if k + 1 = 5 then fMid (upd f k v) else mid), .int wr])), (a0, .inl (E.2 1, 200, .inl (upd f k v)))] := by rw [e9]; exact hD.sub [0, 1] (by decide) rfl
    exact W.vret hx hb hr (fun t9 ht9 hW9 => ⟨⟨(), rfl, trivial, ⟨by rw [ht9]; exact hP9, hD9⟩⟩, hS.F ht9⟩) hS.2.2 dX2_add_47
