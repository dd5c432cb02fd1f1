/-! the loop of the law -/
section LP
variable {p : Program} {l : Launch} {e : Env} {s : State} {m : MethodId} {below : List Frame} {meth : Method} {c : Code} {b L : Nat} {xs : Nat → Int32} {E : EnvT} {tq : Nat} {Q : State → Prop}
set_option maxHeartbeats 1000000 in
theorem law_sw {H : Heap} {locs : List Loc} {cells slots : Nat} {ls : Array Slot} {z : ZT} {i : Nat} (C : LC p s m c b L xs E tq) (hl : lv_has ls 4 (lvL b z i)) (hi : i + 5 ≤ L) (hr : Rel z) (ha : At E s z H locs) (hc : cells + 12 ≤ 600000 ∧ slots + 44 ≤ 7302250)
    (kont : ∀ (z2 : ZT) (H1 : Heap) (locs1 : List Loc), z2.g0 = z.g0 → z2.m0 = z.m0 → Rel z2 → At E s z2 H1 locs1 → W p l e room_1 s m #[Value.ref b] below meth c H1 locs1 (cells + 12) (slots + 44) Q (F0 m 954 ls [])) :
    W p l e room_1 s m #[Value.ref b] below meth c H locs cells slots Q (F0 m 32 ls (.int (xs i &&& 31) :: [])) := by
  obtain ⟨k, hk, ek⟩ := pk_andE (xs i) (m := 31) 5 (by decide)
  rw [ek]
  have hk2 : k < 32 := hk
  rcases (show k = 0 ∨ k = 1 ∨ k = 2 ∨ k = 3 ∨ k = 4 ∨ k = 5 ∨ k = 6 ∨ k = 7 ∨ k = 8 ∨ k = 9 ∨ k = 10 ∨ k = 11 ∨ k = 12 ∨ k = 13 ∨ k = 14 ∨ k = 15 ∨ k = 16 ∨ k = 17 ∨ k = 18 ∨ k = 19 ∨ k = 20 ∨ k = 21 ∨ k = 22 ∨ k = 23 ∨ k = 24 ∨ k = 25 ∨ k = 26 ∨ k = 27 ∨ 28 ≤ k by omega) with rfl | rfl | rfl | rfl | rfl | rfl | rfl | rfl | rfl | rfl | rfl | rfl | rfl | rfl | rfl | rfl | rfl | rfl | rfl | rfl | rfl | rfl | rfl | rfl | rfl | rfl | rfl | rfl | hk3
  · exact lv_tableIn (off := 128) (tgt := 160) C.hx C.hb dL_law_32 (by decide) (by decide) (by decide +kernel) (by decide) (st_shaft C hl hi hr ha hc kont)
  · exact lv_tableIn (off := 171) (tgt := 203) C.hx C.hb dL_law_32 (by decide) (by decide) (by decide +kernel) (by decide) (st_ring C hl hi hr ha hc kont)
  · exact lv_tableIn (off := 224) (tgt := 256) C.hx C.hb dL_law_32 (by decide) (by decide) (by decide +kernel) (by decide) (st_speed C hl hi hr ha hc kont)
  · exact lv_tableIn (off := 257) (tgt := 289) C.hx C.hb dL_law_32 (by decide) (by decide) (by decide +kernel) (by decide) (st_parts C hl hi hr ha hc kont)
  · exact lv_tableIn (off := 270) (tgt := 302) C.hx C.hb dL_law_32 (by decide) (by decide) (by decide +kernel) (by decide) (st_part C hl hi hr ha hc kont)
  · exact lv_tableIn (off := 303) (tgt := 335) C.hx C.hb dL_law_32 (by decide) (by decide) (by decide +kernel) (by decide) (st_tone C hl hi hr ha hc kont)
  · exact lv_tableIn (off := 346) (tgt := 378) C.hx C.hb dL_law_32 (by decide) (by decide) (by decide +kernel) (by decide) (st_mark C hl hi hr ha hc kont)
  · exact lv_tableIn (off := 369) (tgt := 401) C.hx C.hb dL_law_32 (by decide) (by decide) (by decide +kernel) (by decide) (st_unmark C hl hi hr ha hc kont)
  · exact lv_tableIn (off := 382) (tgt := 414) C.hx C.hb dL_law_32 (by decide) (by decide) (by decide +kernel) (by decide) (st_turns C hl hi hr ha hc kont)
  · exact lv_tableIn (off := 395) (tgt := 427) C.hx C.hb dL_law_32 (by decide) (by decide) (by decide +kernel) (by decide) (st_turn C hl hi hr ha hc kont)
  · exact lv_tableIn (off := 418) (tgt := 450) C.hx C.hb dL_law_32 (by decide) (by decide) (by decide +kernel) (by decide) (st_sheet C hl hi hr ha hc kont)
  · exact lv_tableIn (off := 471) (tgt := 503) C.hx C.hb dL_law_32 (by decide) (by decide) (by decide +kernel) (by decide) (st_drop C hl hi hr ha hc kont)
  · exact lv_tableIn (off := 494) (tgt := 526) C.hx C.hb dL_law_32 (by decide) (by decide) (by decide +kernel) (by decide) (st_item C hl hi hr ha hc kont)
  · exact lv_tableIn (off := 547) (tgt := 579) C.hx C.hb dL_law_32 (by decide) (by decide) (by decide +kernel) (by decide) (st_cut C hl hi hr ha hc kont)
  · exact lv_tableIn (off := 590) (tgt := 622) C.hx C.hb dL_law_32 (by decide) (by decide) (by decide +kernel) (by decide) (st_mean C hl hi hr ha hc kont)
  · exact lv_tableIn (off := 613) (tgt := 645) C.hx C.hb dL_law_32 (by decide) (by decide) (by decide +kernel) (by decide) (st_strength C hl hi hr ha hc kont)
  · exact lv_tableIn (off := 636) (tgt := 668) C.hx C.hb dL_law_32 (by decide) (by decide) (by decide +kernel) (by decide) (st_line C hl hi hr ha hc kont)
  · exact lv_tableIn (off := 669) (tgt := 701) C.hx C.hb dL_law_32 (by decide) (by decide) (by decide +kernel) (by decide) (st_unline C hl hi hr ha hc kont)
  · exact lv_tableIn (off := 682) (tgt := 714) C.hx C.hb dL_law_32 (by decide) (by decide) (by decide +kernel) (by decide) (st_slip C hl hi hr ha hc kont)
  · exact lv_tableIn (off := 705) (tgt := 737) C.hx C.hb dL_law_32 (by decide) (by decide) (by decide +kernel) (by decide) (st_explains C hl hi hr ha hc kont)
  · exact lv_tableIn (off := 728) (tgt := 760) C.hx C.hb dL_law_32 (by decide) (by decide) (by decide +kernel) (by decide) (st_named C hl hi hr ha hc kont)
  · exact lv_tableIn (off := 751) (tgt := 783) C.hx C.hb dL_law_32 (by decide) (by decide) (by decide +kernel) (by decide) (st_heap C hl hi hr ha hc kont)
  · exact lv_tableIn (off := 774) (tgt := 806) C.hx C.hb dL_law_32 (by decide) (by decide) (by decide +kernel) (by decide) (st_strange C hl hi hr ha hc kont)
  · exact lv_tableIn (off := 787) (tgt := 819) C.hx C.hb dL_law_32 (by decide) (by decide) (by decide +kernel) (by decide) (st_laws C hl hi hr ha hc kont)
  · exact lv_tableIn (off := 830) (tgt := 862) C.hx C.hb dL_law_32 (by decide) (by decide) (by decide +kernel) (by decide) (st_reading C hl hi hr ha hc kont)
  · exact lv_tableIn (off := 863) (tgt := 895) C.hx C.hb dL_law_32 (by decide) (by decide) (by decide +kernel) (by decide) (st_baseline C hl hi hr ha hc kont)
  · exact lv_tableIn (off := 886) (tgt := 918) C.hx C.hb dL_law_32 (by decide) (by decide) (by decide +kernel) (by decide) (st_warned C hl hi hr ha hc kont)
  · exact lv_tableIn (off := 909) (tgt := 941) C.hx C.hb dL_law_32 (by decide) (by decide) (by decide +kernel) (by decide) (st_repair C hl hi hr ha hc kont)
  · refine lv_tableOut (tgt := 954) C.hx C.hb dL_law_32 (Or.inr (by rw [nI_toInt (by omega)]; omega)) (by decide) ?_
    exact W.widen (by omega) (by omega) (kont z H locs rfl rfl hr ha)
theorem law_loop (C : LC p s m c b L xs E tq) (hx : ∀ (H : Heap) (locs : List Loc) (ls : Array Slot) (cells slots : Nat), va_S (AA s) s.heap H locs → cells ≤ 600000 → slots ≤ 7302250 → W p l e room_1 s m #[Value.ref b] below meth c H locs cells slots Q (F0 m 960 ls [])) :
    ∀ (n j : Nat) (z : ZT) (H : Heap) (locs : List Loc) (ls : Array Slot), lv_has ls 4 (lvL b z (5 * j)) → Rel z → At E s z H locs → L < 5 * (j + n) → j ≤ 520 → W p l e room_1 s m #[Value.ref b] below meth c H locs (64 + 12 * j) (171947 + 44 * j) Q (F0 m 18 ls [])
  | n, j, z, H, locs, ls, hl, hr, ha, hn, hj => by
    have hL := C.hL
    refine lv_iload_n C.hx C.hb dL_law_18 rfl (lv_at hl 3 rfl) ?_
    refine lv_aload_n C.hx C.hb dL_law_19 rfl (lv_at hl 0 rfl) ?_
    refine va_slen C.hx C.hb C.hX C.hbl (Nat.not_le.mpr C.hbl) ha.hS dL_law_20 ?_
    refine lv_iconst (v := nI 5) C.hx C.hb dL_law_21 rfl ?_
    refine lv_isub C.hx C.hb dL_law_22 ?_
    have e1 : (nI L - nI 5).toInt = (L : Int) - 5 := pk_sub_toInt (a := L) (b := 5) (by omega) (by omega)
    have e2 : (nI (5 * j)).toInt = ((5 * j : Nat) : Int) := nI_toInt (by omega)
    refine lv_icmp_gt (tgt := 960) C.hx C.hb dL_law_23 (by decide) (fun _ => hx H locs ls _ _ ha.hS (by omega) (by omega)) (fun h => ?_)
    have h2 : 5 * j + 5 ≤ L := by
      have h3 : ¬ (nI L - nI 5).toInt < (nI (5 * j)).toInt := fun h9 => h (Int32.lt_iff_toInt_lt.mpr h9)
      omega
    refine lv_aload_n C.hx C.hb dL_law_26 rfl (lv_at hl 0 rfl) ?_
    refine lv_iload_n C.hx C.hb dL_law_27 rfl (lv_at hl 3 rfl) ?_
    refine va_sld C.hx C.hb C.hX C.hbl (Nat.not_le.mpr C.hbl) ha.hS (vp_in_nI (show 5 * j < L by omega) (by omega)) dL_law_28 ?_
    rw [nI_clamp (by omega)]
    refine lv_bipush (v := 31) C.hx C.hb dL_law_29 (by decide) ?_
    refine lv_iand C.hx C.hb dL_law_31 ?_
    refine law_sw C hl h2 hr ha (by omega) (fun z2 H1 locs1 g1 g2 hr2 ha2 => ?_)
    refine lv_iinc (k := 3) (lv := lvL b z (5 * j)) C.hx C.hb dL_law_954 hl rfl rfl (by omega) rfl (fun ls2 hl2 => ?_)
    refine lv_goto (tgt := 18) C.hx C.hb dL_law_957 (by decide) ?_
    match n, hn with
    | 0, hn => exact absurd hn (by omega)
    | n + 1, hn =>
      have hl3 : lv_has ls2 4 (lvL b z2 (5 * (j + 1))) := by
        refine ⟨hl2.1, hl2.2.1, fun q hq => hl2.2.2 q ?_⟩
        have e5 : nI (5 * j) + Int32.ofInt 5 = nI (5 * (j + 1)) := nI_add (5 * j) 5
        rw [e5]
        unfold lvL at hq
        rw [g1, g2] at hq
        rcases List.mem_cons.mp hq with h | hq
        · rw [h]; exact List.mem_cons_of_mem _ List.mem_cons_self
        rcases List.mem_cons.mp hq with h | hq
        · rw [h]; exact List.mem_cons_of_mem _ (List.mem_cons_of_mem _ List.mem_cons_self)
        rcases List.mem_cons.mp hq with h | hq
        · rw [h]; exact List.mem_cons_of_mem _ (List.mem_cons_of_mem _ (List.mem_cons_of_mem _ List.mem_cons_self))
        rcases List.mem_cons.mp hq with h | hq
        · rw [h]; exact List.mem_cons_self
        · exact absurd hq List.not_mem_nil
      have e3 : 64 + 12 * j + 12 = 64 + 12 * (j + 1) := by omega
      have e4 : 171947 + 44 * j + 44 = 171947 + 44 * (j + 1) := by omega
      rw [e3, e4]
      exact law_loop C hx n (j + 1) z2 H1 locs1 ls2 hl3 hr2 ha2 (by omega) (by omega)
end LP
