/-! small readers -/
def fWi (v a b : Int32) : Int32 := if a ≤ v ∧ v ≤ b then 1 else 0
theorem fWi_0 {v a b : Int32} (h : fWi v a b = 0) : ¬ (a ≤ v ∧ v ≤ b) := by
  intro h2; simp [fWi, h2] at h
theorem fWi_1 {v a b : Int32} (h : ¬ fWi v a b = 0) : a ≤ v ∧ v ≤ b := by
  rcases Classical.em (a ≤ v ∧ v ≤ b) with h2 | h2
  · exact h2
  · exact absurd (by simp [fWi, h2]) h
def fIn (v a b : Int64) : Int32 := if a ≤ v ∧ v ≤ b then 1 else 0
theorem fIn_0 {v a b : Int64} (h : fIn v a b = 0) : ¬ (a ≤ v ∧ v ≤ b) := by
  intro h2; simp [fIn, h2] at h
theorem fIn_1 {v a b : Int64} (h : ¬ fIn v a b = 0) : a ≤ v ∧ v ≤ b := by
  rcases Classical.em (a ≤ v ∧ v ≤ b) with h2 | h2
  · exact h2
  · exact absurd (by simp [fIn, h2]) h
theorem lc_eq {x y : Int64} (h : lg_cmp x y = 0) : x = y := (lg_cmp_eq x y).mp h
theorem lc_eq_n {x y : Int64} (h : ¬ lg_cmp x y = 0) : ¬ x = y := fun e => h ((lg_cmp_eq x y).mpr e)
theorem lc_ne {x y : Int64} (h : ¬ lg_cmp x y = 0) : ¬ x = y := lc_eq_n h
theorem lc_ne_n {x y : Int64} (h : lg_cmp x y = 0) : x = y := lc_eq h
theorem lc_lt {x y : Int64} (h : lg_cmp x y < 0) : x < y := (lg_cmp_lt x y).mp h
theorem lc_lt_n {x y : Int64} (h : ¬ lg_cmp x y < 0) : ¬ x < y := fun e => h ((lg_cmp_lt x y).mpr e)
theorem lc_ge {x y : Int64} (h : 0 ≤ lg_cmp x y) : y ≤ x := (lg_cmp_ge x y).mp h
theorem lc_ge_n {x y : Int64} (h : ¬ 0 ≤ lg_cmp x y) : ¬ y ≤ x := fun e => h ((lg_cmp_ge x y).mpr e)
theorem lc_gt {x y : Int64} (h : 0 < lg_cmp x y) : y < x := (lg_cmp_gt x y).mp h
theorem lc_gt_n {x y : Int64} (h : ¬ 0 < lg_cmp x y) : ¬ y < x := fun e => h ((lg_cmp_gt x y).mpr e)
theorem lc_le {x y : Int64} (h : lg_cmp x y ≤ 0) : x ≤ y := (lg_cmp_le x y).mp h
theorem lc_le_n {x y : Int64} (h : ¬ lg_cmp x y ≤ 0) : ¬ x ≤ y := fun e => h ((lg_cmp_le x y).mpr e)

set_option maxHeartbeats 1000000 in
set_option maxRecDepth 100000 in
theorem c_X8_within (l : Launch) (E : EnvT) (v : Int32) (a : Int32) (b : Int32)  : Met l yX8_within wsX8_within ({ frames := 0, cells := 0, slots := 0, locals := 0 }) (va_Pc [.int v, .int a, .int b] (PR E [])) (vp_Si (fun r => r = fWi v a b)) 0 0 (fun _ => False) := by
  refine Met.ofW (cc := cX8_within) (maxL := 3) (ret := (some .boolean)) (by decide +kernel) rfl ?_
  intro p e s m args below meth c s₁ B hml hv
  obtain ⟨rfl, hP, hE⟩ := hv
  have hx := B.exec
  have hb := B.bytes
  have hr := B.returns
  have hts := atoms_spec (ws := wsX8_within) B.pre
  have hown : s.vm.findClass RX8 = some m.cls := findClass_of_methodNamed B.named
  have hlocks := B.notSynchronized
  have hK := hE.1
  have hNN := hE.2.1
  have hl := lv_entry ([.int v, .int a, .int b]) (n := 3) (Nat.le_of_ble_eq_true rfl)
  rw [lg_entry_eq]
  generalize (lg_sl ([.int v, .int a, .int b]) ++ List.replicate (3 - (lg_sl ([.int v, .int a, .int b])).length) Slot.unset).toArray = ls at hl ⊢
  have hl : lv_has ls 3 [(0, .int v), (1, .int a), (2, .int b)] := hl
  refine lv_iload_n hx hb dX8_within_0 rfl (lv_at hl 0 rfl) ?_
  refine lv_iload_n hx hb dX8_within_1 rfl (lv_at hl 1 rfl) ?_
  refine lv_icmp_lt (tgt := 14) hx hb dX8_within_2 (by decide) (fun c_2 => ?_) (fun c_2 => ?_)
  · refine lv_iconst (v := 0) hx hb dX8_within_14 (by decide) ?_
    exact W.zret (v := 0) hx hb hr (rfl) (fun t9 ht9 hW9 => ⟨0, rfl, by simp only [fWi, Int32.lt_iff_toInt_lt, Int32.le_iff_toInt_le] at c_2 ⊢; split <;> first | rfl | omega, ht9⟩) (fun _ h => absurd h List.not_mem_nil) dX8_within_15
  · refine lv_iload_n hx hb dX8_within_5 rfl (lv_at hl 0 rfl) ?_
    refine lv_iload_n hx hb dX8_within_6 rfl (lv_at hl 2 rfl) ?_
    refine lv_icmp_gt (tgt := 14) hx hb dX8_within_7 (by decide) (fun c_7 => ?_) (fun c_7 => ?_)
    · refine lv_iconst (v := 0) hx hb dX8_within_14 (by decide) ?_
      exact W.zret (v := 0) hx hb hr (rfl) (fun t9 ht9 hW9 => ⟨0, rfl, by simp only [fWi, Int32.lt_iff_toInt_lt, Int32.le_iff_toInt_le] at c_2 c_7 ⊢; split <;> first | rfl | omega, ht9⟩) (fun _ h => absurd h List.not_mem_nil) dX8_within_15
    · refine lv_iconst (v := 1) hx hb dX8_within_10 (by decide) ?_
      refine lv_goto (tgt := 15) hx hb dX8_within_11 (by decide) ?_
      exact W.zret (v := 1) hx hb hr (rfl) (fun t9 ht9 hW9 => ⟨1, rfl, by simp only [fWi, Int32.lt_iff_toInt_lt, Int32.le_iff_toInt_le] at c_2 c_7 ⊢; split <;> first | rfl | omega, ht9⟩) (fun _ h => absurd h List.not_mem_nil) dX8_within_15
set_option maxHeartbeats 1000000 in
set_option maxRecDepth 100000 in
theorem c_X9_in (l : Launch) (E : EnvT) (v : Int64) (a : Int64) (b : Int64)  : Met l yX9_in wsX9_in ({ frames := 0, cells := 0, slots := 0, locals := 0 }) (va_Pc [.long v, .long a, .long b] (PR E [])) (vp_Si (fun r => r = fIn v a b)) 0 0 (fun _ => False) := by
  refine Met.ofW (cc := cX9_in) (maxL := 6) (ret := (some .boolean)) (by decide +kernel) rfl ?_
  intro p e s m args below meth c s₁ B hml hv
  obtain ⟨rfl, hP, hE⟩ := hv
  have hx := B.exec
  have hb := B.bytes
  have hr := B.returns
  have hts := atoms_spec (ws := wsX9_in) B.pre
  have hown : s.vm.findClass RX9 = some m.cls := findClass_of_methodNamed B.named
  have hlocks := B.notSynchronized
  have hK := hE.1
  have hNN := hE.2.1
  have hl := lv_entry ([.long v, .long a, .long b]) (n := 6) (Nat.le_of_ble_eq_true rfl)
  rw [lg_entry_eq]
  generalize (lg_sl ([.long v, .long a, .long b]) ++ List.replicate (6 - (lg_sl ([.long v, .long a, .long b])).length) Slot.unset).toArray = ls at hl ⊢
  have hl : lv_has ls 6 [(0, .long v), (2, .long a), (4, .long b)] := hl
  refine lv_lload_n hx hb dX9_in_0 rfl (lv_at hl 0 rfl) ?_
  refine lv_lload_n hx hb dX9_in_1 rfl (lv_at hl 1 rfl) ?_
  refine W.lcmp hx hb dX9_in_2 ?_
  refine lv_if_lt (tgt := 17) hx hb dX9_in_3 (by decide) (fun c_3 => ?_) (fun c_3 => ?_)
  · have c_3 := lc_lt c_3
    refine lv_iconst (v := 0) hx hb dX9_in_17 (by decide) ?_
    exact W.zret (v := 0) hx hb hr (rfl) (fun t9 ht9 hW9 => ⟨0, rfl, by simp only [fIn, Int64.lt_iff_toInt_lt, Int64.le_iff_toInt_le] at c_3 ⊢; split <;> first | rfl | omega, ht9⟩) (fun _ h => absurd h List.not_mem_nil) dX9_in_18
  · have c_3 := lc_lt_n c_3
    refine lv_lload_n hx hb dX9_in_6 rfl (lv_at hl 0 rfl) ?_
    refine lv_lload hx hb dX9_in_7 (lv_at hl 2 rfl) ?_
    refine W.lcmp hx hb dX9_in_9 ?_
    refine lv_if_gt (tgt := 17) hx hb dX9_in_10 (by decide) (fun c_10 => ?_) (fun c_10 => ?_)
    · have c_10 := lc_gt c_10
      refine lv_iconst (v := 0) hx hb dX9_in_17 (by decide) ?_
      exact W.zret (v := 0) hx hb hr (rfl) (fun t9 ht9 hW9 => ⟨0, rfl, by simp only [fIn, Int64.lt_iff_toInt_lt, Int64.le_iff_toInt_le] at c_3 c_10 ⊢; split <;> first | rfl | omega, ht9⟩) (fun _ h => absurd h List.not_mem_nil) dX9_in_18
    · have c_10 := lc_gt_n c_10
      refine lv_iconst (v := 1) hx hb dX9_in_13 (by decide) ?_
      refine lv_goto (tgt := 18) hx hb dX9_in_14 (by decide) ?_
      exact W.zret (v := 1) hx hb hr (rfl) (fun t9 ht9 hW9 => ⟨1, rfl, by simp only [fIn, Int64.lt_iff_toInt_lt, Int64.le_iff_toInt_le] at c_3 c_10 ⊢; split <;> first | rfl | omega, ht9⟩) (fun _ h => absurd h List.not_mem_nil) dX9_in_18
def updN (M : Nat → Nat) (k t : Nat) : Nat → Nat := fun j => if j = k then t else M j
def nA (M : Nat → Nat) : Nat → Int32 := fun j => nI (M j)
def lA (M : Nat → Nat) : Nat → Int64 := fun j => lN (M j)
theorem upd_nA (M : Nat → Nat) (k t : Nat) : upd (nA M) k (nI t) = nA (updN M k t) := by
  funext j; by_cases h : j = k
  · subst h; simp [upd, nA, updN]
  · simp [upd, nA, updN, h]
theorem upd_lA (M : Nat → Nat) (k t : Nat) : vp_updL (lA M) k (lN t) = lA (updN M k t) := by
  funext j; by_cases h : j = k
  · subst h; simp [vp_updL, lA, updN]
  · simp [vp_updL, lA, updN, h]
/-- the first i places told anew -/
def flF {α : Type} (F : Nat → α) (i : Nat) (g : Nat → α) : Nat → α := fun j => if j < i then F j else g j
theorem flF_0 {α : Type} (F g : Nat → α) : flF F 0 g = g := by funext j; simp [flF]
theorem flF_s (F g : Nat → Int32) (i : Nat) : upd (flF F i g) i (F i) = flF F (i + 1) g := by
  funext j; by_cases h : j = i
  · subst h; simp [upd, flF]
  · have : j < i + 1 ↔ j < i := by omega
    simp [upd, flF, h, this]
def fFD (x y : Int32) : Int32 := if x ^^^ y < 0 ∧ ¬ x / y * y = x then x / y - 1 else x / y
def fFM (x y : Int32) : Int32 := if x ^^^ y < 0 ∧ ¬ x - x / y * y = 0 then (x - x / y * y) + y else x - x / y * y
def gcdF : Nat → Int64 → Int64 → Int64
  | 0, x, _ => x
  | n + 1, x, y => if y = 0 then x else gcdF n y (x - x / y * y)
def fCD (x y : Int64) : Int64 := if gcdF 100 x y < 1 then 1 else gcdF 100 x y

set_option maxHeartbeats 1000000 in
set_option maxRecDepth 100000 in
theorem c_J9_floorDiv_7cf53 (l : Launch) (E : EnvT) (x : Int32) (y : Int32) (hy : ¬ y = 0) : Met l yJ9_floorDiv_7cf53 wsJ9_floorDiv_7cf53 ({ frames := 0, cells := 0, slots := 0, locals := 0 }) (va_Pc [.int x, .int y] (PR E [])) (vp_Si (fun r => r = fFD x y)) 0 0 (fun _ => False) := by
  refine va_MetF (cc := cJ9_floorDiv_7cf53) (maxL := 3) (ret := (some .int)) (by decide +kernel) rfl ?_
  intro p e s m args below meth c s₁ B hml hv
  obtain ⟨rfl, hP, hE⟩ := hv
  have hx := B.exec
  have hb := B.bytes
  have hr := B.returns
  have hts := atoms_spec (ws := wsJ9_floorDiv_7cf53) B.pre
  have hown : s.vm.findClass RJ9 = some m.cls := findClass_of_methodNamed B.named
  have hlocks := B.notSynchronized
  have hK := hE.1
  have hNN := hE.2.1
  have hl := lv_entry ([.int x, .int y]) (n := 3) (Nat.le_of_ble_eq_true rfl)
  rw [lg_entry_eq]
  generalize (lg_sl ([.int x, .int y]) ++ List.replicate (3 - (lg_sl ([.int x, .int y])).length) Slot.unset).toArray = ls at hl ⊢
  have hl : lv_has ls 3 [(0, .int x), (1, .int y)] := hl
  refine lv_iload_n hx hb dJ9_floorDiv_7cf53_0 rfl (lv_at hl 0 rfl) ?_
  refine lv_iload_n hx hb dJ9_floorDiv_7cf53_1 rfl (lv_at hl 1 rfl) ?_
  refine lv_idiv hx hb dJ9_floorDiv_7cf53_2 (hy) ?_
  refine lv_istore_n (lv' := [(2, .int (x / y)), (0, .int x), (1, .int y)]) hx hb dJ9_floorDiv_7cf53_3 rfl hl (by decide) rfl (fun ls hl => ?_)
  refine lv_iload_n hx hb dJ9_floorDiv_7cf53_4 rfl (lv_at hl 1 rfl) ?_
  refine lv_iload_n hx hb dJ9_floorDiv_7cf53_5 rfl (lv_at hl 2 rfl) ?_
  refine lv_ixor hx hb dJ9_floorDiv_7cf53_6 ?_
  refine lv_if_ge (tgt := 21) hx hb dJ9_floorDiv_7cf53_7 (by decide) (fun c_7 => ?_) (fun c_7 => ?_)
  · refine lv_iload_n hx hb dJ9_floorDiv_7cf53_21 rfl (lv_at hl 0 rfl) ?_
    exact W.iret (v := x / y) hx hb hr (fun t9 ht9 hW9 => ⟨x / y, rfl, by first | exact (if_neg (fun h9 => absurd h9.1 (Int32.not_lt.mpr c_7))).symm | exact (if_neg (fun h9 => h9.2 c_14)).symm, ht9⟩) (fun _ h => absurd h List.not_mem_nil) dJ9_floorDiv_7cf53_22
  · refine lv_iload_n hx hb dJ9_floorDiv_7cf53_10 rfl (lv_at hl 0 rfl) ?_
    refine lv_iload_n hx hb dJ9_floorDiv_7cf53_11 rfl (lv_at hl 2 rfl) ?_
    refine lv_imul hx hb dJ9_floorDiv_7cf53_12 ?_
    refine lv_iload_n hx hb dJ9_floorDiv_7cf53_13 rfl (lv_at hl 1 rfl) ?_
    refine lv_icmp_eq (tgt := 21) hx hb dJ9_floorDiv_7cf53_14 (by decide) (fun c_14 => ?_) (fun c_14 => ?_)
    · refine lv_iload_n hx hb dJ9_floorDiv_7cf53_21 rfl (lv_at hl 0 rfl) ?_
      exact W.iret (v := x / y) hx hb hr (fun t9 ht9 hW9 => ⟨x / y, rfl, by first | exact (if_neg (fun h9 => absurd h9.1 (Int32.not_lt.mpr c_7))).symm | exact (if_neg (fun h9 => h9.2 c_14)).symm, ht9⟩) (fun _ h => absurd h List.not_mem_nil) dJ9_floorDiv_7cf53_22
    · refine lv_iload_n hx hb dJ9_floorDiv_7cf53_17 rfl (lv_at hl 0 rfl) ?_
      refine lv_iconst (v := 1) hx hb dJ9_floorDiv_7cf53_18 (by decide) ?_
      refine lv_isub hx hb dJ9_floorDiv_7cf53_19 ?_
      exact W.iret (v := (x / y) - 1) hx hb hr (fun t9 ht9 hW9 => ⟨(x / y) - 1, rfl, by rw [fFD, if_pos ⟨Int32.not_le.mp c_7, c_14⟩], ht9⟩) (fun _ h => absurd h List.not_mem_nil) dJ9_floorDiv_7cf53_20
set_option maxHeartbeats 1000000 in
set_option maxRecDepth 100000 in
theorem c_J9_floorMod_7cf53 (l : Launch) (E : EnvT) (x : Int32) (y : Int32) (hy : ¬ y = 0) : Met l yJ9_floorMod_7cf53 wsJ9_floorMod_7cf53 ({ frames := 0, cells := 0, slots := 0, locals := 0 }) (va_Pc [.int x, .int y] (PR E [])) (vp_Si (fun r => r = fFM x y)) 0 0 (fun _ => False) := by
  refine va_MetF (cc := cJ9_floorMod_7cf53) (maxL := 3) (ret := (some .int)) (by decide +kernel) rfl ?_
  intro p e s m args below meth c s₁ B hml hv
  obtain ⟨rfl, hP, hE⟩ := hv
  have hx := B.exec
  have hb := B.bytes
  have hr := B.returns
  have hts := atoms_spec (ws := wsJ9_floorMod_7cf53) B.pre
  have hown : s.vm.findClass RJ9 = some m.cls := findClass_of_methodNamed B.named
  have hlocks := B.notSynchronized
  have hK := hE.1
  have hNN := hE.2.1
  have hl := lv_entry ([.int x, .int y]) (n := 3) (Nat.le_of_ble_eq_true rfl)
  rw [lg_entry_eq]
  generalize (lg_sl ([.int x, .int y]) ++ List.replicate (3 - (lg_sl ([.int x, .int y])).length) Slot.unset).toArray = ls at hl ⊢
  have hl : lv_has ls 3 [(0, .int x), (1, .int y)] := hl
  refine lv_iload_n hx hb dJ9_floorMod_7cf53_0 rfl (lv_at hl 0 rfl) ?_
  refine lv_iload_n hx hb dJ9_floorMod_7cf53_1 rfl (lv_at hl 1 rfl) ?_
  refine lv_irem hx hb dJ9_floorMod_7cf53_2 (hy) ?_
  refine lv_istore_n (lv' := [(2, .int (x - x / y * y)), (0, .int x), (1, .int y)]) hx hb dJ9_floorMod_7cf53_3 rfl hl (by decide) rfl (fun ls hl => ?_)
  refine lv_iload_n hx hb dJ9_floorMod_7cf53_4 rfl (lv_at hl 1 rfl) ?_
  refine lv_iload_n hx hb dJ9_floorMod_7cf53_5 rfl (lv_at hl 2 rfl) ?_
  refine lv_ixor hx hb dJ9_floorMod_7cf53_6 ?_
  refine lv_if_ge (tgt := 18) hx hb dJ9_floorMod_7cf53_7 (by decide) (fun c_7 => ?_) (fun c_7 => ?_)
  · refine lv_iload_n hx hb dJ9_floorMod_7cf53_18 rfl (lv_at hl 0 rfl) ?_
    exact W.iret (v := x - x / y * y) hx hb hr (fun t9 ht9 hW9 => ⟨x - x / y * y, rfl, by first | exact (if_neg (fun h9 => absurd h9.1 (Int32.not_lt.mpr c_7))).symm | exact (if_neg (fun h9 => h9.2 c_11)).symm, ht9⟩) (fun _ h => absurd h List.not_mem_nil) dJ9_floorMod_7cf53_19
  · refine lv_iload_n hx hb dJ9_floorMod_7cf53_10 rfl (lv_at hl 0 rfl) ?_
    refine lv_if_eq (tgt := 18) hx hb dJ9_floorMod_7cf53_11 (by decide) (fun c_11 => ?_) (fun c_11 => ?_)
    · refine lv_iload_n hx hb dJ9_floorMod_7cf53_18 rfl (lv_at hl 0 rfl) ?_
      exact W.iret (v := x - x / y * y) hx hb hr (fun t9 ht9 hW9 => ⟨x - x / y * y, rfl, by first | exact (if_neg (fun h9 => absurd h9.1 (Int32.not_lt.mpr c_7))).symm | exact (if_neg (fun h9 => h9.2 c_11)).symm, ht9⟩) (fun _ h => absurd h List.not_mem_nil) dJ9_floorMod_7cf53_19
    · refine lv_iload_n hx hb dJ9_floorMod_7cf53_14 rfl (lv_at hl 0 rfl) ?_
      refine lv_iload_n hx hb dJ9_floorMod_7cf53_15 rfl (lv_at hl 2 rfl) ?_
      refine lv_iadd hx hb dJ9_floorMod_7cf53_16 ?_
      exact W.iret (v := (x - x / y * y) + y) hx hb hr (fun t9 ht9 hW9 => ⟨(x - x / y * y) + y, rfl, by rw [fFM, if_pos ⟨Int32.not_le.mp c_7, c_11⟩], ht9⟩) (fun _ h => absurd h List.not_mem_nil) dJ9_floorMod_7cf53_17
set_option maxHeartbeats 1000000 in
set_option maxRecDepth 100000 in
theorem c_X8_commonDivisor (l : Launch) (E : EnvT) (x : Int64) (y : Int64)  : Met l yX8_commonDivisor wsX8_commonDivisor ({ frames := 1, cells := 0, slots := 0, locals := 23 }) (va_Pc [.long x, .long y] (PR E [])) (vp_Sl (fun r => r = fCD x y)) 0 0 (fun _ => False) := by
  refine Met.ofW (cc := cX8_commonDivisor) (maxL := 11) (ret := (some .long)) (by decide +kernel) rfl ?_
  intro p e s m args below meth c s₁ B hml hv
  obtain ⟨rfl, hP, hE⟩ := hv
  have hx := B.exec
  have hb := B.bytes
  have hr := B.returns
  have hts := atoms_spec (ws := wsX8_commonDivisor) B.pre
  have hown : s.vm.findClass RX8 = some m.cls := findClass_of_methodNamed B.named
  have hlocks := B.notSynchronized
  have hK := hE.1
  have hNN := hE.2.1
  have hl := lv_entry ([.long x, .long y]) (n := 11) (Nat.le_of_ble_eq_true rfl)
  rw [lg_entry_eq]
  generalize (lg_sl ([.long x, .long y]) ++ List.replicate (11 - (lg_sl ([.long x, .long y])).length) Slot.unset).toArray = ls at hl ⊢
  have hl : lv_has ls 11 [(0, .long x), (2, .long y)] := hl
  refine lv_lload_n hx hb dX8_commonDivisor_0 rfl (lv_at hl 0 rfl) ?_
  refine lv_lstore (lv' := [(4, .long x), (0, .long x), (2, .long y)]) hx hb dX8_commonDivisor_1 hl (by decide) rfl (fun ls hl => ?_)
  refine lv_lload_n hx hb dX8_commonDivisor_3 rfl (lv_at hl 2 rfl) ?_
  refine lv_lstore (lv' := [(6, .long y), (4, .long x), (0, .long x), (2, .long y)]) hx hb dX8_commonDivisor_4 hl (by decide) rfl (fun ls hl => ?_)
  refine lv_iconst (v := 0) hx hb dX8_commonDivisor_6 (by decide) ?_
  refine lv_istore (lv' := [(8, .int 0), (6, .long y), (4, .long x), (0, .long x), (2, .long y)]) hx hb dX8_commonDivisor_7 hl (by decide) rfl (fun ls hl => ?_)
  refine (fun (lp9 : ∀ (n9 : Nat) (i : Nat) (a : Int64) (b : Int64) (ls : Array Slot), (100 - i) < n9 → (i ≤ 100) → (gcdF (100 - i) a b = gcdF 100 x y) → lv_has ls 11 [(0, .long x), (2, .long y), (4, .long a), (6, .long b), (8, .int (nI i))] → W p l e _ s m _ below meth c s.heap [] _ _ _ (F0 m 9 ls [])) => lp9 (101) 0 x y _ (by omega) (by omega) (rfl) (lv_sub hl [3, 4, 2, 1, 0] rfl)) ?_
  intro n9
  induction n9 with
  | zero => intro i a b ls h0; exact absurd (by assumption) (Nat.not_lt_zero _)
  | succ n9 ih9 =>
    intro i a b ls hmu9 hi hm hl
    refine lv_iload hx hb dX8_commonDivisor_9 (lv_at hl 4 rfl) ?_
    refine lv_bipush (v := 100) hx hb dX8_commonDivisor_11 (by decide) ?_
    refine lv_icmp_ge (tgt := 44) hx hb dX8_commonDivisor_13 (by decide) (fun c_13 => ?_) (fun c_13 => ?_)
    · have c_13 : 100 ≤ i := (nI_leI (a := 100) (b := i) (by omega) (by omega)).mp c_13
      refine lv_lconst (v := 1) hx hb dX8_commonDivisor_44 (by decide) ?_
      refine lv_lload hx hb dX8_commonDivisor_45 (lv_at hl 2 rfl) ?_
      refine va_mmax_long hx hb (by rw [hml]; exact hl.1.symm) hown (hts (.methodLink RX8 228 Lib.MathLoose.max_long.x) (by decide +kernel)) (hts (.static Lib.MathLoose.max_long.x) (by decide +kernel)) (hts (.initialized "java/lang/Math") (by decide +kernel)) (hts (.code Lib.MathLoose.max_long.x Lib.MathLoose.max_long.code 4 (some .long)) (by decide +kernel)) (Nat.le_of_ble_eq_true rfl) (Nat.le_of_ble_eq_true rfl) (Nat.zero_le _) (Nat.zero_le _) dX8_commonDivisor_47 ?_
      exact W.lret (v := if a < (1 : Int64) then (1 : Int64) else a) hx hb hr (fun t9 ht9 hW9 => ⟨if a < (1 : Int64) then (1 : Int64) else a, rfl, by first | rw [fCD, ← hm, show 100 - i = 0 by omega]; rfl | rw [fCD, ← hm, show 100 - i = (99 - i) + 1 by omega, gcdF, if_pos c_20], ht9⟩) (fun _ h => absurd h List.not_mem_nil) dX8_commonDivisor_50
    · have c_13 : ¬ 100 ≤ i := fun h9 => c_13 ((nI_leI (a := 100) (b := i) (by omega) (by omega)).mpr h9)
      refine lv_lload hx hb dX8_commonDivisor_16 (lv_at hl 3 rfl) ?_
      refine lv_lconst (v := 0) hx hb dX8_commonDivisor_18 (by decide) ?_
      refine W.lcmp hx hb dX8_commonDivisor_19 ?_
      refine lv_if_eq (tgt := 44) hx hb dX8_commonDivisor_20 (by decide) (fun c_20 => ?_) (fun c_20 => ?_)
      · have c_20 := lc_eq c_20
        refine lv_lconst (v := 1) hx hb dX8_commonDivisor_44 (by decide) ?_
        refine lv_lload hx hb dX8_commonDivisor_45 (lv_at hl 2 rfl) ?_
        refine va_mmax_long hx hb (by rw [hml]; exact hl.1.symm) hown (hts (.methodLink RX8 228 Lib.MathLoose.max_long.x) (by decide +kernel)) (hts (.static Lib.MathLoose.max_long.x) (by decide +kernel)) (hts (.initialized "java/lang/Math") (by decide +kernel)) (hts (.code Lib.MathLoose.max_long.x Lib.MathLoose.max_long.code 4 (some .long)) (by decide +kernel)) (Nat.le_of_ble_eq_true rfl) (Nat.le_of_ble_eq_true rfl) (Nat.zero_le _) (Nat.zero_le _) dX8_commonDivisor_47 ?_
        exact W.lret (v := if a < (1 : Int64) then (1 : Int64) else a) hx hb hr (fun t9 ht9 hW9 => ⟨if a < (1 : Int64) then (1 : Int64) else a, rfl, by first | rw [fCD, ← hm, show 100 - i = 0 by omega]; rfl | rw [fCD, ← hm, show 100 - i = (99 - i) + 1 by omega, gcdF, if_pos c_20], ht9⟩) (fun _ h => absurd h List.not_mem_nil) dX8_commonDivisor_50
      · have c_20 := lc_eq_n c_20
        refine lv_lload hx hb dX8_commonDivisor_23 (lv_at hl 2 rfl) ?_
        refine lv_lload hx hb dX8_commonDivisor_25 (lv_at hl 3 rfl) ?_
        refine lv_lrem hx hb dX8_commonDivisor_27 (c_20) ?_
        refine lv_lstore (lv' := [(9, .long (a - a / b * b)), (0, .long x), (2, .long y), (4, .long a), (6, .long b), (8, .int (nI i))]) hx hb dX8_commonDivisor_28 hl (by decide) rfl (fun ls hl => ?_)
        refine lv_lload hx hb dX8_commonDivisor_30 (lv_at hl 4 rfl) ?_
        refine lv_lstore (lv' := [(4, .long b), (9, .long (a - a / b * b)), (0, .long x), (2, .long y), (6, .long b), (8, .int (nI i))]) hx hb dX8_commonDivisor_32 hl (by decide) rfl (fun ls hl => ?_)
        refine lv_lload hx hb dX8_commonDivisor_34 (lv_at hl 1 rfl) ?_
        refine lv_lstore (lv' := [(6, .long (a - a / b * b)), (4, .long b), (9, .long (a - a / b * b)), (0, .long x), (2, .long y), (8, .int (nI i))]) hx hb dX8_commonDivisor_36 hl (by decide) rfl (fun ls hl => ?_)
        refine lv_iinc (v := nI (i + 1)) (lv' := [(8, .int (nI (i + 1))), (6, .long (a - a / b * b)), (4, .long b), (9, .long (a - a / b * b)), (0, .long x), (2, .long y)]) hx hb dX8_commonDivisor_38 hl (k := 5) rfl (nI_add i 1) (by decide) rfl (fun ls hl => ?_)
        refine lv_goto (tgt := 9) hx hb dX8_commonDivisor_41 (by decide) ?_
        exact ih9 (i + 1) b (a - a / b * b) _ (by omega) (by omega) (by rw [← hm, show 100 - i = (100 - (i + 1)) + 1 by omega, gcdF, if_neg c_20]) (lv_sub hl [4, 5, 2, 1, 0] rfl)
