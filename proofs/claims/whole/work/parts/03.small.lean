/-! small readers -/
def fWi (v a b : Int32) : Int32 := if a ≤ v ∧ v ≤ b then 1 else 0
theorem fWi_0 {v a b : Int32} (h : fWi v a b = 0) : ¬ (a ≤ v ∧ v ≤ b) := by
  intro h2; simp [fWi, h2] at h
theorem fWi_1 {v a b : Int32} (h : ¬ fWi v a b = 0) : a ≤ v ∧ v ≤ b := by
  rcases Classical.em (a ≤ v ∧ v ≤ b) with h2 | h2
  · exact h2
  · exact absurd (by simp [fWi, h2]) h
def fIn (v a b : Int64) : Int32 := if a ≤ v ∧ v ≤ b then 1 else 0
theorem fIn_0 {v a b : Int64} (h : fIn v a b = 0) : ¬ (a ≤ v ∧ v ≤ b) := by
  intro h2; simp [fIn, h2] at h
theorem fIn_1 {v a b : Int64} (h : ¬ fIn v a b = 0) : a ≤ v ∧ v ≤ b := by
  rcases Classical.em (a ≤ v ∧ v ≤ b) with h2 | h2
  · exact h2
  · exact absurd (by simp [fIn, h2]) h
theorem lc_eq {x y : Int64} (h : lg_cmp x y = 0) : x = y := (lg_cmp_eq x y).mp h
theorem lc_eq_n {x y : Int64} (h : ¬ lg_cmp x y = 0) : ¬ x = y := fun e => h ((lg_cmp_eq x y).mpr e)
theorem lc_ne {x y : Int64} (h : ¬ lg_cmp x y = 0) : ¬ x = y := lc_eq_n h
theorem lc_ne_n {x y : Int64} (h : lg_cmp x y = 0) : x = y := lc_eq h
theorem lc_lt {x y : Int64} (h : lg_cmp x y < 0) : x < y := (lg_cmp_lt x y).mp h
theorem lc_lt_n {x y : Int64} (h : ¬ lg_cmp x y < 0) : ¬ x < y := fun e => h ((lg_cmp_lt x y).mpr e)
theorem lc_ge {x y : Int64} (h : 0 ≤ lg_cmp x y) : y ≤ x := (lg_cmp_ge x y).mp h
theorem lc_ge_n {x y : Int64} (h : ¬ 0 ≤ lg_cmp x y) : ¬ y ≤ x := fun e => h ((lg_cmp_ge x y).mpr e)
theorem lc_gt {x y : Int64} (h : 0 < lg_cmp x y) : y < x := (lg_cmp_gt x y).mp h
theorem lc_gt_n {x y : Int64} (h : ¬ 0 < lg_cmp x y) : ¬ y < x := fun e => h ((lg_cmp_gt x y).mpr e)
theorem lc_le {x y : Int64} (h : lg_cmp x y ≤ 0) : x ≤ y := (lg_cmp_le x y).mp h
theorem lc_le_n {x y : Int64} (h : ¬ lg_cmp x y ≤ 0) : ¬ x ≤ y := fun e => h ((lg_cmp_le x y).mpr e)

set_option maxHeartbeats 4000000 in
set_option maxRecDepth 100000 in
theorem c_X8_within (l : Launch) (E : EnvT) (v : Int32) (a : Int32) (b : Int32)  : Met l yX8_within wsX8_within ({ frames := 0, cells := 0, slots := 0, locals := 0 }) (va_Pc [.int v, .int a, .int b] (PR E [])) (vp_Si (fun r => r = fWi v a b)) 0 0 (fun _ => False) := by
  refine Met.ofW (cc := cX8_within) (maxL := 3) (ret := (some .boolean)) (by decide) rfl ?_
  intro p e s m args below meth c s₁ B hml hv
  obtain ⟨rfl, hP, hE⟩ := hv
  have hx := B.exec
  have hb := B.bytes
  have hr := B.returns
  have hts := atoms_spec (ws := wsX8_within) B.pre
  have hown : s.vm.findClass RX8 = some m.cls := findClass_of_methodNamed B.named
  have hlocks := B.notSynchronized
  have hK := hE.1
  have hNN := hE.2.1
  have hl := lv_entry ([.int v, .int a, .int b]) (n := 3) (Nat.le_of_ble_eq_true rfl)
  rw [lg_entry_eq]
  generalize (lg_sl ([.int v, .int a, .int b]) ++ List.replicate (3 - (lg_sl ([.int v, .int a, .int b])).length) Slot.unset).toArray = ls at hl ⊢
  have hl : lv_has ls 3 [(0, .int v), (1, .int a), (2, .int b)] := hl
  refine lv_iload_n hx hb dX8_within_0 rfl (lv_at hl 0 rfl) ?_
  refine lv_iload_n hx hb dX8_within_1 rfl (lv_at hl 1 rfl) ?_
  refine lv_icmp_lt (tgt := 14) hx hb dX8_within_2 (by decide) (fun c_2 => ?_) (fun c_2 => ?_)
  · refine lv_iconst (v := 0) hx hb dX8_within_14 (by decide) ?_
    exact W.zret (v := 0) hx hb hr (rfl) (fun t ht hW => ⟨0, rfl, by simp only [fWi, Int32.lt_iff_toInt_lt, Int32.le_iff_toInt_le] at c_2 ⊢; split <;> first | rfl | omega, ht⟩) (fun _ h => absurd h List.not_mem_nil) dX8_within_15
  · refine lv_iload_n hx hb dX8_within_5 rfl (lv_at hl 0 rfl) ?_
    refine lv_iload_n hx hb dX8_within_6 rfl (lv_at hl 2 rfl) ?_
    refine lv_icmp_gt (tgt := 14) hx hb dX8_within_7 (by decide) (fun c_7 => ?_) (fun c_7 => ?_)
    · refine lv_iconst (v := 0) hx hb dX8_within_14 (by decide) ?_
      exact W.zret (v := 0) hx hb hr (rfl) (fun t ht hW => ⟨0, rfl, by simp only [fWi, Int32.lt_iff_toInt_lt, Int32.le_iff_toInt_le] at c_2 c_7 ⊢; split <;> first | rfl | omega, ht⟩) (fun _ h => absurd h List.not_mem_nil) dX8_within_15
    · refine lv_iconst (v := 1) hx hb dX8_within_10 (by decide) ?_
      refine lv_goto (tgt := 15) hx hb dX8_within_11 (by decide) ?_
      exact W.zret (v := 1) hx hb hr (rfl) (fun t ht hW => ⟨1, rfl, by simp only [fWi, Int32.lt_iff_toInt_lt, Int32.le_iff_toInt_le] at c_2 c_7 ⊢; split <;> first | rfl | omega, ht⟩) (fun _ h => absurd h List.not_mem_nil) dX8_within_15
set_option maxHeartbeats 4000000 in
set_option maxRecDepth 100000 in
theorem c_X9_in (l : Launch) (E : EnvT) (v : Int64) (a : Int64) (b : Int64)  : Met l yX9_in wsX9_in ({ frames := 0, cells := 0, slots := 0, locals := 0 }) (va_Pc [.long v, .long a, .long b] (PR E [])) (vp_Si (fun r => r = fIn v a b)) 0 0 (fun _ => False) := by
  refine Met.ofW (cc := cX9_in) (maxL := 6) (ret := (some .boolean)) (by decide) rfl ?_
  intro p e s m args below meth c s₁ B hml hv
  obtain ⟨rfl, hP, hE⟩ := hv
  have hx := B.exec
  have hb := B.bytes
  have hr := B.returns
  have hts := atoms_spec (ws := wsX9_in) B.pre
  have hown : s.vm.findClass RX9 = some m.cls := findClass_of_methodNamed B.named
  have hlocks := B.notSynchronized
  have hK := hE.1
  have hNN := hE.2.1
  have hl := lv_entry ([.long v, .long a, .long b]) (n := 6) (Nat.le_of_ble_eq_true rfl)
  rw [lg_entry_eq]
  generalize (lg_sl ([.long v, .long a, .long b]) ++ List.replicate (6 - (lg_sl ([.long v, .long a, .long b])).length) Slot.unset).toArray = ls at hl ⊢
  have hl : lv_has ls 6 [(0, .long v), (2, .long a), (4, .long b)] := hl
  refine lv_lload_n hx hb dX9_in_0 rfl (lv_at hl 0 rfl) ?_
  refine lv_lload_n hx hb dX9_in_1 rfl (lv_at hl 1 rfl) ?_
  refine W.lcmp hx hb dX9_in_2 ?_
  refine lv_if_lt (tgt := 17) hx hb dX9_in_3 (by decide) (fun c_3 => ?_) (fun c_3 => ?_)
  · have c_3 := lc_lt c_3
    refine lv_iconst (v := 0) hx hb dX9_in_17 (by decide) ?_
    exact W.zret (v := 0) hx hb hr (rfl) (fun t ht hW => ⟨0, rfl, by simp only [fIn, Int64.lt_iff_toInt_lt, Int64.le_iff_toInt_le] at c_3 ⊢; split <;> first | rfl | omega, ht⟩) (fun _ h => absurd h List.not_mem_nil) dX9_in_18
  · have c_3 := lc_lt_n c_3
    refine lv_lload_n hx hb dX9_in_6 rfl (lv_at hl 0 rfl) ?_
    refine lv_lload hx hb dX9_in_7 (lv_at hl 2 rfl) ?_
    refine W.lcmp hx hb dX9_in_9 ?_
    refine lv_if_gt (tgt := 17) hx hb dX9_in_10 (by decide) (fun c_10 => ?_) (fun c_10 => ?_)
    · have c_10 := lc_gt c_10
      refine lv_iconst (v := 0) hx hb dX9_in_17 (by decide) ?_
      exact W.zret (v := 0) hx hb hr (rfl) (fun t ht hW => ⟨0, rfl, by simp only [fIn, Int64.lt_iff_toInt_lt, Int64.le_iff_toInt_le] at c_3 c_10 ⊢; split <;> first | rfl | omega, ht⟩) (fun _ h => absurd h List.not_mem_nil) dX9_in_18
    · have c_10 := lc_gt_n c_10
      refine lv_iconst (v := 1) hx hb dX9_in_13 (by decide) ?_
      refine lv_goto (tgt := 18) hx hb dX9_in_14 (by decide) ?_
      exact W.zret (v := 1) hx hb hr (rfl) (fun t ht hW => ⟨1, rfl, by simp only [fIn, Int64.lt_iff_toInt_lt, Int64.le_iff_toInt_le] at c_3 c_10 ⊢; split <;> first | rfl | omega, ht⟩) (fun _ h => absurd h List.not_mem_nil) dX9_in_18
