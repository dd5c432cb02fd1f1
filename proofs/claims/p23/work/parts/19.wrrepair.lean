/-! WornRings: repair, a new object -/
def bzN (a b c d : Int32) : Nat := bz a + bz b + bz c + bz d

set_option maxHeartbeats 1000000 in
set_option maxRecDepth 100000 in
theorem c_X8_repair (l : Launch) (E : EnvT) (sz : Nat) (g0 : Nat) (gm : Nat) (gk : Nat) (gs : Nat) (ga : Nat) (gl : Nat) (gh : Nat) (gd : Nat) (wA : Int32) (wB : Int32) (wU : Int32) (fd : Nat → Option Nat) (q0 : Nat) (b0 : Nat) (k0 : Int32) (m0 : Int32) (w0 : Int32) (f0 : Nat → Int32) (q1 : Nat) (b1 : Nat) (k1 : Int32) (m1 : Int32) (w1 : Int32) (f1 : Nat → Int32) (q2 : Nat) (b2 : Nat) (k2 : Int32) (m2 : Int32) (w2 : Int32) (f2 : Nat → Int32) (q3 : Nat) (b3 : Nat) (k3 : Int32) (m3 : Int32) (w3 : Int32) (f3 : Nat → Int32) (hq0 : fd 0 = some q0) (hq1 : fd 1 = some q1) (hq2 : fd 2 = some q2) (hq3 : fd 3 = some q3) : Met l yX8_repair wsX8_repair ({ frames := 1, cells := 0, slots := 0, locals := 20 }) (va_Pc [.ref g0] (PW E [(g0, .inr (8, [.ref gm, .ref gk, .ref gs, .ref ga, .ref gl, .ref gh, .ref gd, .int wA, .int wB, .int wU])), (gd, .inl (E.2 6, 4, .inr (.inr (.inr (.inr fd))))), (q0, .inr (2, [.ref b0, .int k0, .int m0, .int w0])), (b0, .inl (E.2 1, 200, .inl f0)), (q1, .inr (2, [.ref b1, .int k1, .int m1, .int w1])), (b1, .inl (E.2 1, 200, .inl f1)), (q2, .inr (2, [.ref b2, .int k2, .int m2, .int w2])), (b2, .inl (E.2 1, 200, .inl f2)), (q3, .inr (2, [.ref b3, .int k3, .int m3, .int w3])), (b3, .inl (E.2 1, 200, .inl f3))] sz)) (va_Qi (fun (r : Int32) (uu : Unit) => r = nI (bzN w0 w1 w2 w3)) (fun (uu : Unit) t => BW E (va_A [(g0, .inr (8, [.ref gm, .ref gk, .ref gs, .ref ga, .ref gl, .ref gh, .ref gd, .int wA, .int wB, .int wU])), (gd, .inl (E.2 6, 4, .inr (.inr (.inr (.inr fd))))), (q0, .inr (2, [.ref b0, .int k0, .int m0, .int w0])), (b0, .inl (E.2 1, 200, .inl f0)), (q1, .inr (2, [.ref b1, .int k1, .int m1, .int w1])), (b1, .inl (E.2 1, 200, .inl f1)), (q2, .inr (2, [.ref b2, .int k2, .int m2, .int w2])), (b2, .inl (E.2 1, 200, .inl f2)), (q3, .inr (2, [.ref b3, .int k3, .int m3, .int w3])), (b3, .inl (E.2 1, 200, .inl f3))] sz) [(g0, .inr (8, [.ref gm, .ref gk, .ref gs, .ref ga, .ref gl, .ref gh, .ref gd, .int wA, .int wB, .int wU])), (gd, .inl (E.2 6, 4, .inr (.inr (.inr (.inr fd))))), (q0, .inr (2, [.ref b0, .int 0, .int m0, .int 0])), (b0, .inl (E.2 1, 200, .inl f0)), (q1, .inr (2, [.ref b1, .int 0, .int m1, .int 0])), (b1, .inl (E.2 1, 200, .inl f1)), (q2, .inr (2, [.ref b2, .int 0, .int m2, .int 0])), (b2, .inl (E.2 1, 200, .inl f2)), (q3, .inr (2, [.ref b3, .int 0, .int m3, .int 0])), (b3, .inl (E.2 1, 200, .inl f3))] t) (va_A [(g0, .inr (8, [.ref gm, .ref gk, .ref gs, .ref ga, .ref gl, .ref gh, .ref gd, .int wA, .int wB, .int wU])), (gd, .inl (E.2 6, 4, .inr (.inr (.inr (.inr fd))))), (q0, .inr (2, [.ref b0, .int k0, .int m0, .int w0])), (b0, .inl (E.2 1, 200, .inl f0)), (q1, .inr (2, [.ref b1, .int k1, .int m1, .int w1])), (b1, .inl (E.2 1, 200, .inl f1)), (q2, .inr (2, [.ref b2, .int k2, .int m2, .int w2])), (b2, .inl (E.2 1, 200, .inl f2)), (q3, .inr (2, [.ref b3, .int k3, .int m3, .int w3])), (b3, .inl (E.2 1, 200, .inl f3))] sz)) 0 0 (va_A [(g0, .inr (8, [.ref gm, .ref gk, .ref gs, .ref ga, .ref gl, .ref gh, .ref gd, .int wA, .int wB, .int wU])), (gd, .inl (E.2 6, 4, .inr (.inr (.inr (.inr fd))))), (q0, .inr (2, [.ref b0, .int k0, .int m0, .int w0])), (b0, .inl (E.2 1, 200, .inl f0)), (q1, .inr (2, [.ref b1, .int k1, .int m1, .int w1])), (b1, .inl (E.2 1, 200, .inl f1)), (q2, .inr (2, [.ref b2, .int k2, .int m2, .int w2])), (b2, .inl (E.2 1, 200, .inl f2)), (q3, .inr (2, [.ref b3, .int k3, .int m3, .int w3])), (b3, .inl (E.2 1, 200, .inl f3))] sz) := by
  refine Met.ofW (cc := cX8_repair) (maxL := 3) (ret := (some .int)) (by decide +kernel) rfl ?_
  intro p e s m args below meth c s₁ B hml hv
  obtain ⟨rfl, hsz, hP, hE, hD0⟩ := hv
  have hx := B.exec
  have hb := B.bytes
  have hr := B.returns
  have hts := atoms_spec (ws := wsX8_repair) B.pre
  have hown : s.vm.findClass RX8 = some m.cls := findClass_of_methodNamed B.named
  have hlocks := B.notSynchronized
  have hK := hE.1
  have hNN := hE.2.1
  have hinX8 : ∀ w ∈ wsX80, w ∈ wsX8_repair := fun w h => List.mem_cons_of_mem _ (List.mem_append_left _ (List.mem_append_right _ h))
  have hinX2 : ∀ w ∈ wsX20, w ∈ wsX8_repair := fun w h => List.mem_cons_of_mem _ (List.mem_append_right _ h)
  subst hsz
  have hD := hD0.self (sz := s.heap.size)
  generalize hAe : va_A [(g0, .inr (8, [.ref gm, .ref gk, .ref gs, .ref ga, .ref gl, .ref gh, .ref gd, .int wA, .int wB, .int wU])), (gd, .inl (E.2 6, 4, .inr (.inr (.inr (.inr fd))))), (q0, .inr (2, [.ref b0, .int k0, .int m0, .int w0])), (b0, .inl (E.2 1, 200, .inl f0)), (q1, .inr (2, [.ref b1, .int k1, .int m1, .int w1])), (b1, .inl (E.2 1, 200, .inl f1)), (q2, .inr (2, [.ref b2, .int k2, .int m2, .int w2])), (b2, .inl (E.2 1, 200, .inl f2)), (q3, .inr (2, [.ref b3, .int k3, .int m3, .int w3])), (b3, .inl (E.2 1, 200, .inl f3))] s.heap.size = A at hD ⊢
  have hA : ∀ q : Nat, s.heap.size ≤ q → A q := fun q h => by rw [← hAe]; exact Or.inr h
  have hS : va_S A s.heap s.heap [] := va_S.rf
  have hl := lv_entry ([.ref g0]) (n := 3) (Nat.le_of_ble_eq_true rfl)
  rw [lg_entry_eq]
  generalize (lg_sl ([.ref g0]) ++ List.replicate (3 - (lg_sl ([.ref g0])).length) Slot.unset).toArray = ls at hl ⊢
  have hl : lv_has ls 3 [(0, .ref g0)] := hl
  refine lv_iconst (v := 0) hx hb dX8_repair_0 (by decide) ?_
  refine lv_istore_n (lv' := [(1, .int 0), (0, .ref g0)]) hx hb dX8_repair_1 rfl hl (by decide) rfl (fun ls hl => ?_)
  refine lv_iconst (v := 0) hx hb dX8_repair_2 (by decide) ?_
  refine lv_istore_n (lv' := [(2, .int 0), (1, .int 0), (0, .ref g0)]) hx hb dX8_repair_3 rfl hl (by decide) rfl (fun ls hl => ?_)
  refine lv_iload_n hx hb dX8_repair_4 rfl (lv_at hl 0 rfl) ?_
  refine lv_aload_n hx hb dX8_repair_5 rfl (lv_at hl 2 rfl) ?_
  refine va_get (D := E.1) (ci := 8) (v := .ref gd) (C := RX8) (T := TX8) (N := 10) hx hb hts hinX8 hown hK hP 0 rfl rfl 6 (by decide) (hts (.fieldLink RX8 52 "WornRings" "loads" "[LWornRings$Load;") (by decide +kernel)) (fun _ h9 => h9) rfl dX8_repair_6 ?_
  refine va_alen (v := 4) hx hb hK hP 1 6 rfl rfl rfl dX8_repair_9 ?_
  refine lv_icmp_ge (tgt := 43) hx hb dX8_repair_10 (by decide) (fun c_10 => by exfalso; revert c_10; decide) (fun c_10 => ?_)
  refine lv_aload_n hx hb dX8_repair_13 rfl (lv_at hl 2 rfl) ?_
  refine va_get (D := E.1) (ci := 8) (v := .ref gd) (C := RX8) (T := TX8) (N := 10) hx hb hts hinX8 hown hK hP 0 rfl rfl 6 (by decide) (hts (.fieldLink RX8 52 "WornRings" "loads" "[LWornRings$Load;") (by decide +kernel)) (fun _ h9 => h9) rfl dX8_repair_14 ?_
  refine lv_iload_n hx hb dX8_repair_17 rfl (lv_at hl 0 rfl) ?_
  refine va_aldq hx hb hK hP 1 6 rfl rfl (by unfold vp_in; decide) dX8_repair_18 ?_
  refine W.eq (g2 := F0 m 19 ls [va_rf (fd 0)]) rfl ?_
  rw [hq0]
  refine W.eq (g2 := F0 m 19 ls [.ref q0]) rfl ?_
  refine va_getN (D := E.1) (host := "WornRings") (ref := "WornRings$Load") (ci := 2) (v := .int w0) (C := RX2) (T := TX2) (N := 4) hx hb hts hinX2 hown hK hP 2 rfl rfl 3 (by decide) (va_Nw.use rfl (hNN (.fieldLinkNest RX8 223 "WornRings$Load" "warning" "Z" "WornRings") (by decide +kernel))) (fun _ h9 => h9) rfl dX8_repair_19 ?_
  refine lv_if_eq (tgt := 28) hx hb dX8_repair_22 (by decide) (fun c_22 => ?_) (fun c_22 => ?_)
  · have d0 := c_22
    refine lv_aload_n hx hb dX8_repair_28 rfl (lv_at hl 2 rfl) ?_
    refine va_get (D := E.1) (ci := 8) (v := .ref gd) (C := RX8) (T := TX8) (N := 10) hx hb hts hinX8 hown hK hP 0 rfl rfl 6 (by decide) (hts (.fieldLink RX8 52 "WornRings" "loads" "[LWornRings$Load;") (by decide +kernel)) (fun _ h9 => h9) rfl dX8_repair_29 ?_
    refine lv_iload_n hx hb dX8_repair_32 rfl (lv_at hl 0 rfl) ?_
    refine va_aldq hx hb hK hP 1 6 rfl rfl (by unfold vp_in; decide) dX8_repair_33 ?_
    refine W.eq (g2 := F0 m 34 ls [va_rf (fd 0)]) rfl ?_
    rw [hq0]
    refine W.eq (g2 := F0 m 34 ls [.ref q0]) rfl ?_
    refine wVv (wr := [(g0, .inr (8, [.ref gm, .ref gk, .ref gs, .ref ga, .ref gl, .ref gh, .ref gd, .int wA, .int wB, .int wU])), (gd, .inl (E.2 6, 4, .inr (.inr (.inr (.inr fd))))), (q1, .inr (2, [.ref b1, .int k1, .int m1, .int w1])), (b1, .inl (E.2 1, 200, .inl f1)), (q2, .inr (2, [.ref b2, .int k2, .int m2, .int w2])), (b2, .inl (E.2 1, 200, .inl f2)), (q3, .inr (2, [.ref b3, .int k3, .int m3, .int w3])), (b3, .inl (E.2 1, 200, .inl f3))]) hE ⟨hx, hb, hml, hown, hts⟩ (c_X2_clear l E s.heap.size q0 b0 k0 m0 w0 f0 ) (cwV 0 hts gX8_repair_X2_clear rfl rfl rfl (by decide +kernel) ⟨Nat.le_of_ble_eq_true rfl, Nat.le_of_ble_eq_true rfl⟩) hP hD hS hA [2, 3] [0, 1, 4, 5, 6, 7, 8, 9] rfl rfl (by decide) (by decide) (by decide) 0 2 rfl rfl rfl hl.1 rfl (Nat.le_of_ble_eq_true rfl) dX8_repair_34 ⟨(Nat.zero_le _), (Nat.zero_le _)⟩ (fun u H locs hw hP hD hS => ?_)
    have hP : va_P E.1 vwCl [(g0, .inr (8, [.ref gm, .ref gk, .ref gs, .ref ga, .ref gl, .ref gh, .ref gd, .int wA, .int wB, .int wU])), (gd, .inl (E.2 6, 4, .inr (.inr (.inr (.inr fd))))), (q1, .inr (2, [.ref b1, .int k1, .int m1, .int w1])), (b1, .inl (E.2 1, 200, .inl f1)), (q2, .inr (2, [.ref b2, .int k2, .int m2, .int w2])), (b2, .inl (E.2 1, 200, .inl f2)), (q3, .inr (2, [.ref b3, .int k3, .int m3, .int w3])), (b3, .inl (E.2 1, 200, .inl f3)), (q0, .inr (2, [.ref b0, .int 0, .int m0, .int 0])), (b0, .inl (E.2 1, 200, .inl f0))] H := hP
    have hD : va_D A [(g0, .inr (8, [.ref gm, .ref gk, .ref gs, .ref ga, .ref gl, .ref gh, .ref gd, .int wA, .int wB, .int wU])), (gd, .inl (E.2 6, 4, .inr (.inr (.inr (.inr fd))))), (q1, .inr (2, [.ref b1, .int k1, .int m1, .int w1])), (b1, .inl (E.2 1, 200, .inl f1)), (q2, .inr (2, [.ref b2, .int k2, .int m2, .int w2])), (b2, .inl (E.2 1, 200, .inl f2)), (q3, .inr (2, [.ref b3, .int k3, .int m3, .int w3])), (b3, .inl (E.2 1, 200, .inl f3)), (q0, .inr (2, [.ref b0, .int 0, .int m0, .int 0])), (b0, .inl (E.2 1, 200, .inl f0))] := hD
    refine lv_iinc (v := 1) (lv' := [(2, .int 1), (1, .int 0), (0, .ref g0)]) hx hb dX8_repair_37 hl (k := 0) rfl (by decide) (by decide) rfl (fun ls hl => ?_)
    refine lv_goto (tgt := 4) hx hb dX8_repair_40 (by decide) ?_
    refine lv_iload_n hx hb dX8_repair_4 rfl (lv_at hl 0 rfl) ?_
    refine lv_aload_n hx hb dX8_repair_5 rfl (lv_at hl 2 rfl) ?_
    refine va_get (D := E.1) (ci := 8) (v := .ref gd) (C := RX8) (T := TX8) (N := 10) hx hb hts hinX8 hown hK hP 0 rfl rfl 6 (by decide) (hts (.fieldLink RX8 52 "WornRings" "loads" "[LWornRings$Load;") (by decide +kernel)) (fun _ h9 => h9) rfl dX8_repair_6 ?_
    refine va_alen (v := 4) hx hb hK hP 1 6 rfl rfl rfl dX8_repair_9 ?_
    refine lv_icmp_ge (tgt := 43) hx hb dX8_repair_10 (by decide) (fun c_10 => by exfalso; revert c_10; decide) (fun c_10 => ?_)
    refine lv_aload_n hx hb dX8_repair_13 rfl (lv_at hl 2 rfl) ?_
    refine va_get (D := E.1) (ci := 8) (v := .ref gd) (C := RX8) (T := TX8) (N := 10) hx hb hts hinX8 hown hK hP 0 rfl rfl 6 (by decide) (hts (.fieldLink RX8 52 "WornRings" "loads" "[LWornRings$Load;") (by decide +kernel)) (fun _ h9 => h9) rfl dX8_repair_14 ?_
    refine lv_iload_n hx hb dX8_repair_17 rfl (lv_at hl 0 rfl) ?_
    refine va_aldq hx hb hK hP 1 6 rfl rfl (by unfold vp_in; decide) dX8_repair_18 ?_
    refine W.eq (g2 := F0 m 19 ls [va_rf (fd 1)]) rfl ?_
    rw [hq1]
    refine W.eq (g2 := F0 m 19 ls [.ref q1]) rfl ?_
    refine va_getN (D := E.1) (host := "WornRings") (ref := "WornRings$Load") (ci := 2) (v := .int w1) (C := RX2) (T := TX2) (N := 4) hx hb hts hinX2 hown hK hP 2 rfl rfl 3 (by decide) (va_Nw.use rfl (hNN (.fieldLinkNest RX8 223 "WornRings$Load" "warning" "Z" "WornRings") (by decide +kernel))) (fun _ h9 => h9) rfl dX8_repair_19 ?_
    refine lv_if_eq (tgt := 28) hx hb dX8_repair_22 (by decide) (fun c_22 => ?_) (fun c_22 => ?_)
    · have d1 := c_22
      refine lv_aload_n hx hb dX8_repair_28 rfl (lv_at hl 2 rfl) ?_
      refine va_get (D := E.1) (ci := 8) (v := .ref gd) (C := RX8) (T := TX8) (N := 10) hx hb hts hinX8 hown hK hP 0 rfl rfl 6 (by decide) (hts (.fieldLink RX8 52 "WornRings" "loads" "[LWornRings$Load;") (by decide +kernel)) (fun _ h9 => h9) rfl dX8_repair_29 ?_
      refine lv_iload_n hx hb dX8_repair_32 rfl (lv_at hl 0 rfl) ?_
      refine va_aldq hx hb hK hP 1 6 rfl rfl (by unfold vp_in; decide) dX8_repair_33 ?_
      refine W.eq (g2 := F0 m 34 ls [va_rf (fd 1)]) rfl ?_
      rw [hq1]
      refine W.eq (g2 := F0 m 34 ls [.ref q1]) rfl ?_
      refine wVv (wr := [(g0, .inr (8, [.ref gm, .ref gk, .ref gs, .ref ga, .ref gl, .ref gh, .ref gd, .int wA, .int wB, .int wU])), (gd, .inl (E.2 6, 4, .inr (.inr (.inr (.inr fd))))), (q2, .inr (2, [.ref b2, .int k2, .int m2, .int w2])), (b2, .inl (E.2 1, 200, .inl f2)), (q3, .inr (2, [.ref b3, .int k3, .int m3, .int w3])), (b3, .inl (E.2 1, 200, .inl f3)), (q0, .inr (2, [.ref b0, .int 0, .int m0, .int 0])), (b0, .inl (E.2 1, 200, .inl f0))]) hE ⟨hx, hb, hml, hown, hts⟩ (c_X2_clear l E H.size q1 b1 k1 m1 w1 f1 ) (cwV 0 hts gX8_repair_X2_clear rfl rfl rfl (by decide +kernel) ⟨Nat.le_of_ble_eq_true rfl, Nat.le_of_ble_eq_true rfl⟩) hP hD hS hA [2, 3] [0, 1, 4, 5, 6, 7, 8, 9] rfl rfl (by decide) (by decide) (by decide) 0 2 rfl rfl rfl hl.1 rfl (Nat.le_of_ble_eq_true rfl) dX8_repair_34 ⟨(Nat.zero_le _), (Nat.zero_le _)⟩ (fun u H locs hw hP hD hS => ?_)
      have hP : va_P E.1 vwCl [(g0, .inr (8, [.ref gm, .ref gk, .ref gs, .ref ga, .ref gl, .ref gh, .ref gd, .int wA, .int wB, .int wU])), (gd, .inl (E.2 6, 4, .inr (.inr (.inr (.inr fd))))), (q2, .inr (2, [.ref b2, .int k2, .int m2, .int w2])), (b2, .inl (E.2 1, 200, .inl f2)), (q3, .inr (2, [.ref b3, .int k3, .int m3, .int w3])), (b3, .inl (E.2 1, 200, .inl f3)), (q0, .inr (2, [.ref b0, .int 0, .int m0, .int 0])), (b0, .inl (E.2 1, 200, .inl f0)), (q1, .inr (2, [.ref b1, .int 0, .int m1, .int 0])), (b1, .inl (E.2 1, 200, .inl f1))] H := hP
      have hD : va_D A [(g0, .inr (8, [.ref gm, .ref gk, .ref gs, .ref ga, .ref gl, .ref gh, .ref gd, .int wA, .int wB, .int wU])), (gd, .inl (E.2 6, 4, .inr (.inr (.inr (.inr fd))))), (q2, .inr (2, [.ref b2, .int k2, .int m2, .int w2])), (b2, .inl (E.2 1, 200, .inl f2)), (q3, .inr (2, [.ref b3, .int k3, .int m3, .int w3])), (b3, .inl (E.2 1, 200, .inl f3)), (q0, .inr (2, [.ref b0, .int 0, .int m0, .int 0])), (b0, .inl (E.2 1, 200, .inl f0)), (q1, .inr (2, [.ref b1, .int 0, .int m1, .int 0])), (b1, .inl (E.2 1, 200, .inl f1))] := hD
      refine lv_iinc (v := 2) (lv' := [(2, .int 2), (1, .int 0), (0, .ref g0)]) hx hb dX8_repair_37 hl (k := 0) rfl (by decide) (by decide) rfl (fun ls hl => ?_)
      refine lv_goto (tgt := 4) hx hb dX8_repair_40 (by decide) ?_
      refine lv_iload_n hx hb dX8_repair_4 rfl (lv_at hl 0 rfl) ?_
      refine lv_aload_n hx hb dX8_repair_5 rfl (lv_at hl 2 rfl) ?_
      refine va_get (D := E.1) (ci := 8) (v := .ref gd) (C := RX8) (T := TX8) (N := 10) hx hb hts hinX8 hown hK hP 0 rfl rfl 6 (by decide) (hts (.fieldLink RX8 52 "WornRings" "loads" "[LWornRings$Load;") (by decide +kernel)) (fun _ h9 => h9) rfl dX8_repair_6 ?_
      refine va_alen (v := 4) hx hb hK hP 1 6 rfl rfl rfl dX8_repair_9 ?_
      refine lv_icmp_ge (tgt := 43) hx hb dX8_repair_10 (by decide) (fun c_10 => by exfalso; revert c_10; decide) (fun c_10 => ?_)
      refine lv_aload_n hx hb dX8_repair_13 rfl (lv_at hl 2 rfl) ?_
      refine va_get (D := E.1) (ci := 8) (v := .ref gd) (C := RX8) (T := TX8) (N := 10) hx hb hts hinX8 hown hK hP 0 rfl rfl 6 (by decide) (hts (.fieldLink RX8 52 "WornRings" "loads" "[LWornRings$Load;") (by decide +kernel)) (fun _ h9 => h9) rfl dX8_repair_14 ?_
      refine lv_iload_n hx hb dX8_repair_17 rfl (lv_at hl 0 rfl) ?_
      refine va_aldq hx hb hK hP 1 6 rfl rfl (by unfold vp_in; decide) dX8_repair_18 ?_
      refine W.eq (g2 := F0 m 19 ls [va_rf (fd 2)]) rfl ?_
      rw [hq2]
      refine W.eq (g2 := F0 m 19 ls [.ref q2]) rfl ?_
      refine va_getN (D := E.1) (host := "WornRings") (ref := "WornRings$Load") (ci := 2) (v := .int w2) (C := RX2) (T := TX2) (N := 4) hx hb hts hinX2 hown hK hP 2 rfl rfl 3 (by decide) (va_Nw.use rfl (hNN (.fieldLinkNest RX8 223 "WornRings$Load" "warning" "Z" "WornRings") (by decide +kernel))) (fun _ h9 => h9) rfl dX8_repair_19 ?_
      refine lv_if_eq (tgt := 28) hx hb dX8_repair_22 (by decide) (fun c_22 => ?_) (fun c_22 => ?_)
      · have d2 := c_22
        refine lv_aload_n hx hb dX8_repair_28 rfl (lv_at hl 2 rfl) ?_
        refine va_get (D := E.1) (ci := 8) (v := .ref gd) (C := RX8) (T := TX8) (N := 10) hx hb hts hinX8 hown hK hP 0 rfl rfl 6 (by decide) (hts (.fieldLink RX8 52 "WornRings" "loads" "[LWornRings$Load;") (by decide +kernel)) (fun _ h9 => h9) rfl dX8_repair_29 ?_
        refine lv_iload_n hx hb dX8_repair_32 rfl (lv_at hl 0 rfl) ?_
        refine va_aldq hx hb hK hP 1 6 rfl rfl (by unfold vp_in; decide) dX8_repair_33 ?_
        refine W.eq (g2 := F0 m 34 ls [va_rf (fd 2)]) rfl ?_
        rw [hq2]
        refine W.eq (g2 := F0 m 34 ls [.ref q2]) rfl ?_
        refine wVv (wr := [(g0, .inr (8, [.ref gm, .ref gk, .ref gs, .ref ga, .ref gl, .ref gh, .ref gd, .int wA, .int wB, .int wU])), (gd, .inl (E.2 6, 4, .inr (.inr (.inr (.inr fd))))), (q3, .inr (2, [.ref b3, .int k3, .int m3, .int w3])), (b3, .inl (E.2 1, 200, .inl f3)), (q0, .inr (2, [.ref b0, .int 0, .int m0, .int 0])), (b0, .inl (E.2 1, 200, .inl f0)), (q1, .inr (2, [.ref b1, .int 0, .int m1, .int 0])), (b1, .inl (E.2 1, 200, .inl f1))]) hE ⟨hx, hb, hml, hown, hts⟩ (c_X2_clear l E H.size q2 b2 k2 m2 w2 f2 ) (cwV 0 hts gX8_repair_X2_clear rfl rfl rfl (by decide +kernel) ⟨Nat.le_of_ble_eq_true rfl, Nat.le_of_ble_eq_true rfl⟩) hP hD hS hA [2, 3] [0, 1, 4, 5, 6, 7, 8, 9] rfl rfl (by decide) (by decide) (by decide) 0 2 rfl rfl rfl hl.1 rfl (Nat.le_of_ble_eq_true rfl) dX8_repair_34 ⟨(Nat.zero_le _), (Nat.zero_le _)⟩ (fun u H locs hw hP hD hS => ?_)
        have hP : va_P E.1 vwCl [(g0, .inr (8, [.ref gm, .ref gk, .ref gs, .ref ga, .ref gl, .ref gh, .ref gd, .int wA, .int wB, .int wU])), (gd, .inl (E.2 6, 4, .inr (.inr (.inr (.inr fd))))), (q3, .inr (2, [.ref b3, .int k3, .int m3, .int w3])), (b3, .inl (E.2 1, 200, .inl f3)), (q0, .inr (2, [.ref b0, .int 0, .int m0, .int 0])), (b0, .inl (E.2 1, 200, .inl f0)), (q1, .inr (2, [.ref b1, .int 0, .int m1, .int 0])), (b1, .inl (E.2 1, 200, .inl f1)), (q2, .inr (2, [.ref b2, .int 0, .int m2, .int 0])), (b2, .inl (E.2 1, 200, .inl f2))] H := hP
        have hD : va_D A [(g0, .inr (8, [.ref gm, .ref gk, .ref gs, .ref ga, .ref gl, .ref gh, .ref gd, .int wA, .int wB, .int wU])), (gd, .inl (E.2 6, 4, .inr (.inr (.inr (.inr fd))))), (q3, .inr (2, [.ref b3, .int k3, .int m3, .int w3])), (b3, .inl (E.2 1, 200, .inl f3)), (q0, .inr (2, [.ref b0, .int 0, .int m0, .int 0])), (b0, .inl (E.2 1, 200, .inl f0)), (q1, .inr (2, [.ref b1, .int 0, .int m1, .int 0])), (b1, .inl (E.2 1, 200, .inl f1)), (q2, .inr (2, [.ref b2, .int 0, .int m2, .int 0])), (b2, .inl (E.2 1, 200, .inl f2))] := hD
        refine lv_iinc (v := 3) (lv' := [(2, .int 3), (1, .int 0), (0, .ref g0)]) hx hb dX8_repair_37 hl (k := 0) rfl (by decide) (by decide) rfl (fun ls hl => ?_)
        refine lv_goto (tgt := 4) hx hb dX8_repair_40 (by decide) ?_
        refine lv_iload_n hx hb dX8_repair_4 rfl (lv_at hl 0 rfl) ?_
        refine lv_aload_n hx hb dX8_repair_5 rfl (lv_at hl 2 rfl) ?_
        refine va_get (D := E.1) (ci := 8) (v := .ref gd) (C := RX8) (T := TX8) (N := 10) hx hb hts hinX8 hown hK hP 0 rfl rfl 6 (by decide) (hts (.fieldLink RX8 52 "WornRings" "loads" "[LWornRings$Load;") (by decide +kernel)) (fun _ h9 => h9) rfl dX8_repair_6 ?_
        refine va_alen (v := 4) hx hb hK hP 1 6 rfl rfl rfl dX8_repair_9 ?_
        refine lv_icmp_ge (tgt := 43) hx hb dX8_repair_10 (by decide) (fun c_10 => by exfalso; revert c_10; decide) (fun c_10 => ?_)
        refine lv_aload_n hx hb dX8_repair_13 rfl (lv_at hl 2 rfl) ?_
        refine va_get (D := E.1) (ci := 8) (v := .ref gd) (C := RX8) (T := TX8) (N := 10) hx hb hts hinX8 hown hK hP 0 rfl rfl 6 (by decide) (hts (.fieldLink RX8 52 "WornRings" "loads" "[LWornRings$Load;") (by decide +kernel)) (fun _ h9 => h9) rfl dX8_repair_14 ?_
        refine lv_iload_n hx hb dX8_repair_17 rfl (lv_at hl 0 rfl) ?_
        refine va_aldq hx hb hK hP 1 6 rfl rfl (by unfold vp_in; decide) dX8_repair_18 ?_
        refine W.eq (g2 := F0 m 19 ls [va_rf (fd 3)]) rfl ?_
        rw [hq3]
        refine W.eq (g2 := F0 m 19 ls [.ref q3]) rfl ?_
        refine va_getN (D := E.1) (host := "WornRings") (ref := "WornRings$Load") (ci := 2) (v := .int w3) (C := RX2) (T := TX2) (N := 4) hx hb hts hinX2 hown hK hP 2 rfl rfl 3 (by decide) (va_Nw.use rfl (hNN (.fieldLinkNest RX8 223 "WornRings$Load" "warning" "Z" "WornRings") (by decide +kernel))) (fun _ h9 => h9) rfl dX8_repair_19 ?_
        refine lv_if_eq (tgt := 28) hx hb dX8_repair_22 (by decide) (fun c_22 => ?_) (fun c_22 => ?_)
        · have d3 := c_22
          refine lv_aload_n hx hb dX8_repair_28 rfl (lv_at hl 2 rfl) ?_
          refine va_get (D := E.1) (ci := 8) (v := .ref gd) (C := RX8) (T := TX8) (N := 10) hx hb hts hinX8 hown hK hP 0 rfl rfl 6 (by decide) (hts (.fieldLink RX8 52 "WornRings" "loads" "[LWornRings$Load;") (by decide +kernel)) (fun _ h9 => h9) rfl dX8_repair_29 ?_
          refine lv_iload_n hx hb dX8_repair_32 rfl (lv_at hl 0 rfl) ?_
          refine va_aldq hx hb hK hP 1 6 rfl rfl (by unfold vp_in; decide) dX8_repair_33 ?_
          refine W.eq (g2 := F0 m 34 ls [va_rf (fd 3)]) rfl ?_
          rw [hq3]
          refine W.eq (g2 := F0 m 34 ls [.ref q3]) rfl ?_
          refine wVv (wr := [(g0, .inr (8, [.ref gm, .ref gk, .ref gs, .ref ga, .ref gl, .ref gh, .ref gd, .int wA, .int wB, .int wU])), (gd, .inl (E.2 6, 4, .inr (.inr (.inr (.inr fd))))), (q0, .inr (2, [.ref b0, .int 0, .int m0, .int 0])), (b0, .inl (E.2 1, 200, .inl f0)), (q1, .inr (2, [.ref b1, .int 0, .int m1, .int 0])), (b1, .inl (E.2 1, 200, .inl f1)), (q2, .inr (2, [.ref b2, .int 0, .int m2, .int 0])), (b2, .inl (E.2 1, 200, .inl f2))]) hE ⟨hx, hb, hml, hown, hts⟩ (c_X2_clear l E H.size q3 b3 k3 m3 w3 f3 ) (cwV 0 hts gX8_repair_X2_clear rfl rfl rfl (by decide +kernel) ⟨Nat.le_of_ble_eq_true rfl, Nat.le_of_ble_eq_true rfl⟩) hP hD hS hA [2, 3] [0, 1, 4, 5, 6, 7, 8, 9] rfl rfl (by decide) (by decide) (by decide) 0 2 rfl rfl rfl hl.1 rfl (Nat.le_of_ble_eq_true rfl) dX8_repair_34 ⟨(Nat.zero_le _), (Nat.zero_le _)⟩ (fun u H locs hw hP hD hS => ?_)
          have hP : va_P E.1 vwCl [(g0, .inr (8, [.ref gm, .ref gk, .ref gs, .ref ga, .ref gl, .ref gh, .ref gd, .int wA, .int wB, .int wU])), (gd, .inl (E.2 6, 4, .inr (.inr (.inr (.inr fd))))), (q0, .inr (2, [.ref b0, .int 0, .int m0, .int 0])), (b0, .inl (E.2 1, 200, .inl f0)), (q1, .inr (2, [.ref b1, .int 0, .int m1, .int 0])), (b1, .inl (E.2 1, 200, .inl f1)), (q2, .inr (2, [.ref b2, .int 0, .int m2, .int 0])), (b2, .inl (E.2 1, 200, .inl f2)), (q3, .inr (2, [.ref b3, .int 0, .int m3, .int 0])), (b3, .inl (E.2 1, 200, .inl f3))] H := hP
          have hD : va_D A [(g0, .inr (8, [.ref gm, .ref gk, .ref gs, .ref ga, .ref gl, .ref gh, .ref gd, .int wA, .int wB, .int wU])), (gd, .inl (E.2 6, 4, .inr (.inr (.inr (.inr fd))))), (q0, .inr (2, [.ref b0, .int 0, .int m0, .int 0])), (b0, .inl (E.2 1, 200, .inl f0)), (q1, .inr (2, [.ref b1, .int 0, .int m1, .int 0])), (b1, .inl (E.2 1, 200, .inl f1)), (q2, .inr (2, [.ref b2, .int 0, .int m2, .int 0])), (b2, .inl (E.2 1, 200, .inl f2)), (q3, .inr (2, [.ref b3, .int 0, .int m3, .int 0])), (b3, .inl (E.2 1, 200, .inl f3))] := hD
          refine lv_iinc (v := 4) (lv' := [(2, .int 4), (1, .int 0), (0, .ref g0)]) hx hb dX8_repair_37 hl (k := 0) rfl (by decide) (by decide) rfl (fun ls hl => ?_)
          refine lv_goto (tgt := 4) hx hb dX8_repair_40 (by decide) ?_
          refine lv_iload_n hx hb dX8_repair_4 rfl (lv_at hl 0 rfl) ?_
          refine lv_aload_n hx hb dX8_repair_5 rfl (lv_at hl 2 rfl) ?_
          refine va_get (D := E.1) (ci := 8) (v := .ref gd) (C := RX8) (T := TX8) (N := 10) hx hb hts hinX8 hown hK hP 0 rfl rfl 6 (by decide) (hts (.fieldLink RX8 52 "WornRings" "loads" "[LWornRings$Load;") (by decide +kernel)) (fun _ h9 => h9) rfl dX8_repair_6 ?_
          refine va_alen (v := 4) hx hb hK hP 1 6 rfl rfl rfl dX8_repair_9 ?_
          refine lv_icmp_ge (tgt := 43) hx hb dX8_repair_10 (by decide) (fun c_10 => ?_) (fun c_10 => by exfalso; revert c_10; decide)
          refine lv_iload_n hx hb dX8_repair_43 rfl (lv_at hl 1 rfl) ?_
          have hP9 : va_P E.1 vwCl [(g0, .inr (8, [.ref gm, .ref gk, .ref gs, .ref ga, .ref gl, .ref gh, .ref gd, .int wA, .int wB, .int wU])), (gd, .inl (E.2 6, 4, .inr (.inr (.inr (.inr fd))))), (q0, .inr (2, [.ref b0, .int 0, .int m0, .int 0])), (b0, .inl (E.2 1, 200, .inl f0)), (q1, .inr (2, [.ref b1, .int 0, .int m1, .int 0])), (b1, .inl (E.2 1, 200, .inl f1)), (q2, .inr (2, [.ref b2, .int 0, .int m2, .int 0])), (b2, .inl (E.2 1, 200, .inl f2)), (q3, .inr (2, [.ref b3, .int 0, .int m3, .int 0])), (b3, .inl (E.2 1, 200, .inl f3))] H := hP.sub [0, 1, 2, 3, 4, 5, 6, 7, 8, 9] rfl
          have hD9 : va_D A [(g0, .inr (8, [.ref gm, .ref gk, .ref gs, .ref ga, .ref gl, .ref gh, .ref gd, .int wA, .int wB, .int wU])), (gd, .inl (E.2 6, 4, .inr (.inr (.inr (.inr fd))))), (q0, .inr (2, [.ref b0, .int 0, .int m0, .int 0])), (b0, .inl (E.2 1, 200, .inl f0)), (q1, .inr (2, [.ref b1, .int 0, .int m1, .int 0])), (b1, .inl (E.2 1, 200, .inl f1)), (q2, .inr (2, [.ref b2, .int 0, .int m2, .int 0])), (b2, .inl (E.2 1, 200, .inl f2)), (q3, .inr (2, [.ref b3, .int 0, .int m3, .int 0])), (b3, .inl (E.2 1, 200, .inl f3))] := hD.sub [0, 1, 2, 3, 4, 5, 6, 7, 8, 9] (by decide) rfl
          exact W.iret (v := 0) hx hb hr (fun t9 ht9 hW9 => ⟨⟨0, (), rfl, by simp only [bzN, bz, d0, d1, d2, d3, if_true, if_false]; try rfl, ⟨by rw [ht9]; exact hP9, hD9⟩⟩, hS.F ht9⟩) hS.2.2 dX8_repair_44
        · refine lv_iinc (v := 1) (lv' := [(1, .int 1), (2, .int 3), (0, .ref g0)]) hx hb dX8_repair_25 hl (k := 1) rfl (by decide) (by decide) rfl (fun ls hl => ?_)
          have d3 := c_22
          refine lv_aload_n hx hb dX8_repair_28 rfl (lv_at hl 2 rfl) ?_
          refine va_get (D := E.1) (ci := 8) (v := .ref gd) (C := RX8) (T := TX8) (N := 10) hx hb hts hinX8 hown hK hP 0 rfl rfl 6 (by decide) (hts (.fieldLink RX8 52 "WornRings" "loads" "[LWornRings$Load;") (by decide +kernel)) (fun _ h9 => h9) rfl dX8_repair_29 ?_
          refine lv_iload_n hx hb dX8_repair_32 rfl (lv_at hl 1 rfl) ?_
          refine va_aldq hx hb hK hP 1 6 rfl rfl (by unfold vp_in; decide) dX8_repair_33 ?_
          refine W.eq (g2 := F0 m 34 ls [va_rf (fd 3)]) rfl ?_
          rw [hq3]
          refine W.eq (g2 := F0 m 34 ls [.ref q3]) rfl ?_
          refine wVv (wr := [(g0, .inr (8, [.ref gm, .ref gk, .ref gs, .ref ga, .ref gl, .ref gh, .ref gd, .int wA, .int wB, .int wU])), (gd, .inl (E.2 6, 4, .inr (.inr (.inr (.inr fd))))), (q0, .inr (2, [.ref b0, .int 0, .int m0, .int 0])), (b0, .inl (E.2 1, 200, .inl f0)), (q1, .inr (2, [.ref b1, .int 0, .int m1, .int 0])), (b1, .inl (E.2 1, 200, .inl f1)), (q2, .inr (2, [.ref b2, .int 0, .int m2, .int 0])), (b2, .inl (E.2 1, 200, .inl f2))]) hE ⟨hx, hb, hml, hown, hts⟩ (c_X2_clear l E H.size q3 b3 k3 m3 w3 f3 ) (cwV 0 hts gX8_repair_X2_clear rfl rfl rfl (by decide +kernel) ⟨Nat.le_of_ble_eq_true rfl, Nat.le_of_ble_eq_true rfl⟩) hP hD hS hA [2, 3] [0, 1, 4, 5, 6, 7, 8, 9] rfl rfl (by decide) (by decide) (by decide) 0 2 rfl rfl rfl hl.1 rfl (Nat.le_of_ble_eq_true rfl) dX8_repair_34 ⟨(Nat.zero_le _), (Nat.zero_le _)⟩ (fun u H locs hw hP hD hS => ?_)
          have hP : va_P E.1 vwCl [(g0, .inr (8, [.ref gm, .ref gk, .ref gs, .ref ga, .ref gl, .ref gh, .ref gd, .int wA, .int wB, .int wU])), (gd, .inl (E.2 6, 4, .inr (.inr (.inr (.inr fd))))), (q0, .inr (2, [.ref b0, .int 0, .int m0, .int 0])), (b0, .inl (E.2 1, 200, .inl f0)), (q1, .inr (2, [.ref b1, .int 0, .int m1, .int 0])), (b1, .inl (E.2 1, 200, .inl f1)), (q2, .inr (2, [.ref b2, .int 0, .int m2, .int 0])), (b2, .inl (E.2 1, 200, .inl f2)), (q3, .inr (2, [.ref b3, .int 0, .int m3, .int 0])), (b3, .inl (E.2 1, 200, .inl f3))] H := hP
          have hD : va_D A [(g0, .inr (8, [.ref gm, .ref gk, .ref gs, .ref ga, .ref gl, .ref gh, .ref gd, .int wA, .int wB, .int wU])), (gd, .inl (E.2 6, 4, .inr (.inr (.inr (.inr fd))))), (q0, .inr (2, [.ref b0, .int 0, .int m0, .int 0])), (b0, .inl (E.2 1, 200, .inl f0)), (q1, .inr (2, [.ref b1, .int 0, .int m1, .int 0])), (b1, .inl (E.2 1, 200, .inl f1)), (q2, .inr (2, [.ref b2, .int 0, .int m2, .int 0])), (b2, .inl (E.2 1, 200, .inl f2)), (q3, .inr (2, [.ref b3, .int 0, .int m3, .int 0])), (b3, .inl (E.2 1, 200, .inl f3))] := hD
          refine lv_iinc (v := 4) (lv' := [(2, .int 4), (1, .int 1), (0, .ref g0)]) hx hb dX8_repair_37 hl (k := 1) rfl (by decide) (by decide) rfl (fun ls hl => ?_)
          refine lv_goto (tgt := 4) hx hb dX8_repair_40 (by decide) ?_
          refine lv_iload_n hx hb dX8_repair_4 rfl (lv_at hl 0 rfl) ?_
          refine lv_aload_n hx hb dX8_repair_5 rfl (lv_at hl 2 rfl) ?_
          refine va_get (D := E.1) (ci := 8) (v := .ref gd) (C := RX8) (T := TX8) (N := 10) hx hb hts hinX8 hown hK hP 0 rfl rfl 6 (by decide) (hts (.fieldLink RX8 52 "WornRings" "loads" "[LWornRings$Load;") (by decide +kernel)) (fun _ h9 => h9) rfl dX8_repair_6 ?_
          refine va_alen (v := 4) hx hb hK hP 1 6 rfl rfl rfl dX8_repair_9 ?_
          refine lv_icmp_ge (tgt := 43) hx hb dX8_repair_10 (by decide) (fun c_10 => ?_) (fun c_10 => by exfalso; revert c_10; decide)
          refine lv_iload_n hx hb dX8_repair_43 rfl (lv_at hl 1 rfl) ?_
          have hP9 : va_P E.1 vwCl [(g0, .inr (8, [.ref gm, .ref gk, .ref gs, .ref ga, .ref gl, .ref gh, .ref gd, .int wA, .int wB, .int wU])), (gd, .inl (E.2 6, 4, .inr (.inr (.inr (.inr fd))))), (q0, .inr (2, [.ref b0, .int 0, .int m0, .int 0])), (b0, .inl (E.2 1, 200, .inl f0)), (q1, .inr (2, [.ref b1, .int 0, .int m1, .int 0])), (b1, .inl (E.2 1, 200, .inl f1)), (q2, .inr (2, [.ref b2, .int 0, .int m2, .int 0])), (b2, .inl (E.2 1, 200, .inl f2)), (q3, .inr (2, [.ref b3, .int 0, .int m3, .int 0])), (b3, .inl (E.2 1, 200, .inl f3))] H := hP.sub [0, 1, 2, 3, 4, 5, 6, 7, 8, 9] rfl
          have hD9 : va_D A [(g0, .inr (8, [.ref gm, .ref gk, .ref gs, .ref ga, .ref gl, .ref gh, .ref gd, .int wA, .int wB, .int wU])), (gd, .inl (E.2 6, 4, .inr (.inr (.inr (.inr fd))))), (q0, .inr (2, [.ref b0, .int 0, .int m0, .int 0])), (b0, .inl (E.2 1, 200, .inl f0)), (q1, .inr (2, [.ref b1, .int 0, .int m1, .int 0])), (b1, .inl (E.2 1, 200, .inl f1)), (q2, .inr (2, [.ref b2, .int 0, .int m2, .int 0])), (b2, .inl (E.2 1, 200, .inl f2)), (q3, .inr (2, [.ref b3, .int 0, .int m3, .int 0])), (b3, .inl (E.2 1, 200, .inl f3))] := hD.sub [0, 1, 2, 3, 4, 5, 6, 7, 8, 9] (by decide) rfl
          exact W.iret (v := 1) hx hb hr (fun t9 ht9 hW9 => ⟨⟨1, (), rfl, by simp only [bzN, bz, d0, d1, d2, d3, if_true, if_false]; try rfl, ⟨by rw [ht9]; exact hP9, hD9⟩⟩, hS.F ht9⟩) hS.2.2 dX8_repair_44
      · refine lv_iinc (v := 1) (lv' := [(1, .int 1), (2, .int 2), (0, .ref g0)]) hx hb dX8_repair_25 hl (k := 1) rfl (by decide) (by decide) rfl (fun ls hl => ?_)
        have d2 := c_22
        refine lv_aload_n hx hb dX8_repair_28 rfl (lv_at hl 2 rfl) ?_
        refine va_get (D := E.1) (ci := 8) (v := .ref gd) (C := RX8) (T := TX8) (N := 10) hx hb hts hinX8 hown hK hP 0 rfl rfl 6 (by decide) (hts (.fieldLink RX8 52 "WornRings" "loads" "[LWornRings$Load;") (by decide +kernel)) (fun _ h9 => h9) rfl dX8_repair_29 ?_
        refine lv_iload_n hx hb dX8_repair_32 rfl (lv_at hl 1 rfl) ?_
        refine va_aldq hx hb hK hP 1 6 rfl rfl (by unfold vp_in; decide) dX8_repair_33 ?_
        refine W.eq (g2 := F0 m 34 ls [va_rf (fd 2)]) rfl ?_
        rw [hq2]
        refine W.eq (g2 := F0 m 34 ls [.ref q2]) rfl ?_
        refine wVv (wr := [(g0, .inr (8, [.ref gm, .ref gk, .ref gs, .ref ga, .ref gl, .ref gh, .ref gd, .int wA, .int wB, .int wU])), (gd, .inl (E.2 6, 4, .inr (.inr (.inr (.inr fd))))), (q3, .inr (2, [.ref b3, .int k3, .int m3, .int w3])), (b3, .inl (E.2 1, 200, .inl f3)), (q0, .inr (2, [.ref b0, .int 0, .int m0, .int 0])), (b0, .inl (E.2 1, 200, .inl f0)), (q1, .inr (2, [.ref b1, .int 0, .int m1, .int 0])), (b1, .inl (E.2 1, 200, .inl f1))]) hE ⟨hx, hb, hml, hown, hts⟩ (c_X2_clear l E H.size q2 b2 k2 m2 w2 f2 ) (cwV 0 hts gX8_repair_X2_clear rfl rfl rfl (by decide +kernel) ⟨Nat.le_of_ble_eq_true rfl, Nat.le_of_ble_eq_true rfl⟩) hP hD hS hA [2, 3] [0, 1, 4, 5, 6, 7, 8, 9] rfl rfl (by decide) (by decide) (by decide) 0 2 rfl rfl rfl hl.1 rfl (Nat.le_of_ble_eq_true rfl) dX8_repair_34 ⟨(Nat.zero_le _), (Nat.zero_le _)⟩ (fun u H locs hw hP hD hS => ?_)
        have hP : va_P E.1 vwCl [(g0, .inr (8, [.ref gm, .ref gk, .ref gs, .ref ga, .ref gl, .ref gh, .ref gd, .int wA, .int wB, .int wU])), (gd, .inl (E.2 6, 4, .inr (.inr (.inr (.inr fd))))), (q3, .inr (2, [.ref b3, .int k3, .int m3, .int w3])), (b3, .inl (E.2 1, 200, .inl f3)), (q0, .inr (2, [.ref b0, .int 0, .int m0, .int 0])), (b0, .inl (E.2 1, 200, .inl f0)), (q1, .inr (2, [.ref b1, .int 0, .int m1, .int 0])), (b1, .inl (E.2 1, 200, .inl f1)), (q2, .inr (2, [.ref b2, .int 0, .int m2, .int 0])), (b2, .inl (E.2 1, 200, .inl f2))] H := hP
        have hD : va_D A [(g0, .inr (8, [.ref gm, .ref gk, .ref gs, .ref ga, .ref gl, .ref gh, .ref gd, .int wA, .int wB, .int wU])), (gd, .inl (E.2 6, 4, .inr (.inr (.inr (.inr fd))))), (q3, .inr (2, [.ref b3, .int k3, .int m3, .int w3])), (b3, .inl (E.2 1, 200, .inl f3)), (q0, .inr (2, [.ref b0, .int 0, .int m0, .int 0])), (b0, .inl (E.2 1, 200, .inl f0)), (q1, .inr (2, [.ref b1, .int 0, .int m1, .int 0])), (b1, .inl (E.2 1, 200, .inl f1)), (q2, .inr (2, [.ref b2, .int 0, .int m2, .int 0])), (b2, .inl (E.2 1, 200, .inl f2))] := hD
        refine lv_iinc (v := 3) (lv' := [(2, .int 3), (1, .int 1), (0, .ref g0)]) hx hb dX8_repair_37 hl (k := 1) rfl (by decide) (by decide) rfl (fun ls hl => ?_)
        refine lv_goto (tgt := 4) hx hb dX8_repair_40 (by decide) ?_
        refine lv_iload_n hx hb dX8_repair_4 rfl (lv_at hl 0 rfl) ?_
        refine lv_aload_n hx hb dX8_repair_5 rfl (lv_at hl 2 rfl) ?_
        refine va_get (D := E.1) (ci := 8) (v := .ref gd) (C := RX8) (T := TX8) (N := 10) hx hb hts hinX8 hown hK hP 0 rfl rfl 6 (by decide) (hts (.fieldLink RX8 52 "WornRings" "loads" "[LWornRings$Load;") (by decide +kernel)) (fun _ h9 => h9) rfl dX8_repair_6 ?_
        refine va_alen (v := 4) hx hb hK hP 1 6 rfl rfl rfl dX8_repair_9 ?_
        refine lv_icmp_ge (tgt := 43) hx hb dX8_repair_10 (by decide) (fun c_10 => by exfalso; revert c_10; decide) (fun c_10 => ?_)
        refine lv_aload_n hx hb dX8_repair_13 rfl (lv_at hl 2 rfl) ?_
        refine va_get (D := E.1) (ci := 8) (v := .ref gd) (C := RX8) (T := TX8) (N := 10) hx hb hts hinX8 hown hK hP 0 rfl rfl 6 (by decide) (hts (.fieldLink RX8 52 "WornRings" "loads" "[LWornRings$Load;") (by decide +kernel)) (fun _ h9 => h9) rfl dX8_repair_14 ?_
        refine lv_iload_n hx hb dX8_repair_17 rfl (lv_at hl 0 rfl) ?_
        refine va_aldq hx hb hK hP 1 6 rfl rfl (by unfold vp_in; decide) dX8_repair_18 ?_
        refine W.eq (g2 := F0 m 19 ls [va_rf (fd 3)]) rfl ?_
        rw [hq3]
        refine W.eq (g2 := F0 m 19 ls [.ref q3]) rfl ?_
        refine va_getN (D := E.1) (host := "WornRings") (ref := "WornRings$Load") (ci := 2) (v := .int w3) (C := RX2) (T := TX2) (N := 4) hx hb hts hinX2 hown hK hP 2 rfl rfl 3 (by decide) (va_Nw.use rfl (hNN (.fieldLinkNest RX8 223 "WornRings$Load" "warning" "Z" "WornRings") (by decide +kernel))) (fun _ h9 => h9) rfl dX8_repair_19 ?_
        refine lv_if_eq (tgt := 28) hx hb dX8_repair_22 (by decide) (fun c_22 => ?_) (fun c_22 => ?_)
        · have d3 := c_22
          refine lv_aload_n hx hb dX8_repair_28 rfl (lv_at hl 2 rfl) ?_
          refine va_get (D := E.1) (ci := 8) (v := .ref gd) (C := RX8) (T := TX8) (N := 10) hx hb hts hinX8 hown hK hP 0 rfl rfl 6 (by decide) (hts (.fieldLink RX8 52 "WornRings" "loads" "[LWornRings$Load;") (by decide +kernel)) (fun _ h9 => h9) rfl dX8_repair_29 ?_
          refine lv_iload_n hx hb dX8_repair_32 rfl (lv_at hl 0 rfl) ?_
          refine va_aldq hx hb hK hP 1 6 rfl rfl (by unfold vp_in; decide) dX8_repair_33 ?_
          refine W.eq (g2 := F0 m 34 ls [va_rf (fd 3)]) rfl ?_
          rw [hq3]
          refine W.eq (g2 := F0 m 34 ls [.ref q3]) rfl ?_
          refine wVv (wr := [(g0, .inr (8, [.ref gm, .ref gk, .ref gs, .ref ga, .ref gl, .ref gh, .ref gd, .int wA, .int wB, .int wU])), (gd, .inl (E.2 6, 4, .inr (.inr (.inr (.inr fd))))), (q0, .inr (2, [.ref b0, .int 0, .int m0, .int 0])), (b0, .inl (E.2 1, 200, .inl f0)), (q1, .inr (2, [.ref b1, .int 0, .int m1, .int 0])), (b1, .inl (E.2 1, 200, .inl f1)), (q2, .inr (2, [.ref b2, .int 0, .int m2, .int 0])), (b2, .inl (E.2 1, 200, .inl f2))]) hE ⟨hx, hb, hml, hown, hts⟩ (c_X2_clear l E H.size q3 b3 k3 m3 w3 f3 ) (cwV 0 hts gX8_repair_X2_clear rfl rfl rfl (by decide +kernel) ⟨Nat.le_of_ble_eq_true rfl, Nat.le_of_ble_eq_true rfl⟩) hP hD hS hA [2, 3] [0, 1, 4, 5, 6, 7, 8, 9] rfl rfl (by decide) (by decide) (by decide) 0 2 rfl rfl rfl hl.1 rfl (Nat.le_of_ble_eq_true rfl) dX8_repair_34 ⟨(Nat.zero_le _), (Nat.zero_le _)⟩ (fun u H locs hw hP hD hS => ?_)
          have hP : va_P E.1 vwCl [(g0, .inr (8, [.ref gm, .ref gk, .ref gs, .ref ga, .ref gl, .ref gh, .ref gd, .int wA, .int wB, .int wU])), (gd, .inl (E.2 6, 4, .inr (.inr (.inr (.inr fd))))), (q0, .inr (2, [.ref b0, .int 0, .int m0, .int 0])), (b0, .inl (E.2 1, 200, .inl f0)), (q1, .inr (2, [.ref b1, .int 0, .int m1, .int 0])), (b1, .inl (E.2 1, 200, .inl f1)), (q2, .inr (2, [.ref b2, .int 0, .int m2, .int 0])), (b2, .inl (E.2 1, 200, .inl f2)), (q3, .inr (2, [.ref b3, .int 0, .int m3, .int 0])), (b3, .inl (E.2 1, 200, .inl f3))] H := hP
          have hD : va_D A [(g0, .inr (8, [.ref gm, .ref gk, .ref gs, .ref ga, .ref gl, .ref gh, .ref gd, .int wA, .int wB, .int wU])), (gd, .inl (E.2 6, 4, .inr (.inr (.inr (.inr fd))))), (q0, .inr (2, [.ref b0, .int 0, .int m0, .int 0])), (b0, .inl (E.2 1, 200, .inl f0)), (q1, .inr (2, [.ref b1, .int 0, .int m1, .int 0])), (b1, .inl (E.2 1, 200, .inl f1)), (q2, .inr (2, [.ref b2, .int 0, .int m2, .int 0])), (b2, .inl (E.2 1, 200, .inl f2)), (q3, .inr (2, [.ref b3, .int 0, .int m3, .int 0])), (b3, .inl (E.2 1, 200, .inl f3))] := hD
          refine lv_iinc (v := 4) (lv' := [(2, .int 4), (1, .int 1), (0, .ref g0)]) hx hb dX8_repair_37 hl (k := 0) rfl (by decide) (by decide) rfl (fun ls hl => ?_)
          refine lv_goto (tgt := 4) hx hb dX8_repair_40 (by decide) ?_
          refine lv_iload_n hx hb dX8_repair_4 rfl (lv_at hl 0 rfl) ?_
          refine lv_aload_n hx hb dX8_repair_5 rfl (lv_at hl 2 rfl) ?_
          refine va_get (D := E.1) (ci := 8) (v := .ref gd) (C := RX8) (T := TX8) (N := 10) hx hb hts hinX8 hown hK hP 0 rfl rfl 6 (by decide) (hts (.fieldLink RX8 52 "WornRings" "loads" "[LWornRings$Load;") (by decide +kernel)) (fun _ h9 => h9) rfl dX8_repair_6 ?_
          refine va_alen (v := 4) hx hb hK hP 1 6 rfl rfl rfl dX8_repair_9 ?_
          refine lv_icmp_ge (tgt := 43) hx hb dX8_repair_10 (by decide) (fun c_10 => ?_) (fun c_10 => by exfalso; revert c_10; decide)
          refine lv_iload_n hx hb dX8_repair_43 rfl (lv_at hl 1 rfl) ?_
          have hP9 : va_P E.1 vwCl [(g0, .inr (8, [.ref gm, .ref gk, .ref gs, .ref ga, .ref gl, .ref gh, .ref gd, .int wA, .int wB, .int wU])), (gd, .inl (E.2 6, 4, .inr (.inr (.inr (.inr fd))))), (q0, .inr (2, [.ref b0, .int 0, .int m0, .int 0])), (b0, .inl (E.2 1, 200, .inl f0)), (q1, .inr (2, [.ref b1, .int 0, .int m1, .int 0])), (b1, .inl (E.2 1, 200, .inl f1)), (q2, .inr (2, [.ref b2, .int 0, .int m2, .int 0])), (b2, .inl (E.2 1, 200, .inl f2)), (q3, .inr (2, [.ref b3, .int 0, .int m3, .int 0])), (b3, .inl (E.2 1, 200, .inl f3))] H := hP.sub [0, 1, 2, 3, 4, 5, 6, 7, 8, 9] rfl
          have hD9 : va_D A [(g0, .inr (8, [.ref gm, .ref gk, .ref gs, .ref ga, .ref gl, .ref gh, .ref gd, .int wA, .int wB, .int wU])), (gd, .inl (E.2 6, 4, .inr (.inr (.inr (.inr fd))))), (q0, .inr (2, [.ref b0, .int 0, .int m0, .int 0])), (b0, .inl (E.2 1, 200, .inl f0)), (q1, .inr (2, [.ref b1, .int 0, .int m1, .int 0])), (b1, .inl (E.2 1, 200, .inl f1)), (q2, .inr (2, [.ref b2, .int 0, .int m2, .int 0])), (b2, .inl (E.2 1, 200, .inl f2)), (q3, .inr (2, [.ref b3, .int 0, .int m3, .int 0])), (b3, .inl (E.2 1, 200, .inl f3))] := hD.sub [0, 1, 2, 3, 4, 5, 6, 7, 8, 9] (by decide) rfl
          exact W.iret (v := 1) hx hb hr (fun t9 ht9 hW9 => ⟨⟨1, (), rfl, by simp only [bzN, bz, d0, d1, d2, d3, if_true, if_false]; try rfl, ⟨by rw [ht9]; exact hP9, hD9⟩⟩, hS.F ht9⟩) hS.2.2 dX8_repair_44
        · refine lv_iinc (v := 2) (lv' := [(1, .int 2), (2, .int 3), (0, .ref g0)]) hx hb dX8_repair_25 hl (k := 1) rfl (by decide) (by decide) rfl (fun ls hl => ?_)
          have d3 := c_22
          refine lv_aload_n hx hb dX8_repair_28 rfl (lv_at hl 2 rfl) ?_
          refine va_get (D := E.1) (ci := 8) (v := .ref gd) (C := RX8) (T := TX8) (N := 10) hx hb hts hinX8 hown hK hP 0 rfl rfl 6 (by decide) (hts (.fieldLink RX8 52 "WornRings" "loads" "[LWornRings$Load;") (by decide +kernel)) (fun _ h9 => h9) rfl dX8_repair_29 ?_
          refine lv_iload_n hx hb dX8_repair_32 rfl (lv_at hl 1 rfl) ?_
          refine va_aldq hx hb hK hP 1 6 rfl rfl (by unfold vp_in; decide) dX8_repair_33 ?_
          refine W.eq (g2 := F0 m 34 ls [va_rf (fd 3)]) rfl ?_
          rw [hq3]
          refine W.eq (g2 := F0 m 34 ls [.ref q3]) rfl ?_
          refine wVv (wr := [(g0, .inr (8, [.ref gm, .ref gk, .ref gs, .ref ga, .ref gl, .ref gh, .ref gd, .int wA, .int wB, .int wU])), (gd, .inl (E.2 6, 4, .inr (.inr (.inr (.inr fd))))), (q0, .inr (2, [.ref b0, .int 0, .int m0, .int 0])), (b0, .inl (E.2 1, 200, .inl f0)), (q1, .inr (2, [.ref b1, .int 0, .int m1, .int 0])), (b1, .inl (E.2 1, 200, .inl f1)), (q2, .inr (2, [.ref b2, .int 0, .int m2, .int 0])), (b2, .inl (E.2 1, 200, .inl f2))]) hE ⟨hx, hb, hml, hown, hts⟩ (c_X2_clear l E H.size q3 b3 k3 m3 w3 f3 ) (cwV 0 hts gX8_repair_X2_clear rfl rfl rfl (by decide +kernel) ⟨Nat.le_of_ble_eq_true rfl, Nat.le_of_ble_eq_true rfl⟩) hP hD hS hA [2, 3] [0, 1, 4, 5, 6, 7, 8, 9] rfl rfl (by decide) (by decide) (by decide) 0 2 rfl rfl rfl hl.1 rfl (Nat.le_of_ble_eq_true rfl) dX8_repair_34 ⟨(Nat.zero_le _), (Nat.zero_le _)⟩ (fun u H locs hw hP hD hS => ?_)
          have hP : va_P E.1 vwCl [(g0, .inr (8, [.ref gm, .ref gk, .ref gs, .ref ga, .ref gl, .ref gh, .ref gd, .int wA, .int wB, .int wU])), (gd, .inl (E.2 6, 4, .inr (.inr (.inr (.inr fd))))), (q0, .inr (2, [.ref b0, .int 0, .int m0, .int 0])), (b0, .inl (E.2 1, 200, .inl f0)), (q1, .inr (2, [.ref b1, .int 0, .int m1, .int 0])), (b1, .inl (E.2 1, 200, .inl f1)), (q2, .inr (2, [.ref b2, .int 0, .int m2, .int 0])), (b2, .inl (E.2 1, 200, .inl f2)), (q3, .inr (2, [.ref b3, .int 0, .int m3, .int 0])), (b3, .inl (E.2 1, 200, .inl f3))] H := hP
          have hD : va_D A [(g0, .inr (8, [.ref gm, .ref gk, .ref gs, .ref ga, .ref gl, .ref gh, .ref gd, .int wA, .int wB, .int wU])), (gd, .inl (E.2 6, 4, .inr (.inr (.inr (.inr fd))))), (q0, .inr (2, [.ref b0, .int 0, .int m0, .int 0])), (b0, .inl (E.2 1, 200, .inl f0)), (q1, .inr (2, [.ref b1, .int 0, .int m1, .int 0])), (b1, .inl (E.2 1, 200, .inl f1)), (q2, .inr (2, [.ref b2, .int 0, .int m2, .int 0])), (b2, .inl (E.2 1, 200, .inl f2)), (q3, .inr (2, [.ref b3, .int 0, .int m3, .int 0])), (b3, .inl (E.2 1, 200, .inl f3))] := hD
          refine lv_iinc (v := 4) (lv' := [(2, .int 4), (1, .int 2), (0, .ref g0)]) hx hb dX8_repair_37 hl (k := 1) rfl (by decide) (by decide) rfl (fun ls hl => ?_)
          refine lv_goto (tgt := 4) hx hb dX8_repair_40 (by decide) ?_
          refine lv_iload_n hx hb dX8_repair_4 rfl (lv_at hl 0 rfl) ?_
          refine lv_aload_n hx hb dX8_repair_5 rfl (lv_at hl 2 rfl) ?_
          refine va_get (D := E.1) (ci := 8) (v := .ref gd) (C := RX8) (T := TX8) (N := 10) hx hb hts hinX8 hown hK hP 0 rfl rfl 6 (by decide) (hts (.fieldLink RX8 52 "WornRings" "loads" "[LWornRings$Load;") (by decide +kernel)) (fun _ h9 => h9) rfl dX8_repair_6 ?_
          refine va_alen (v := 4) hx hb hK hP 1 6 rfl rfl rfl dX8_repair_9 ?_
          refine lv_icmp_ge (tgt := 43) hx hb dX8_repair_10 (by decide) (fun c_10 => ?_) (fun c_10 => by exfalso; revert c_10; decide)
          refine lv_iload_n hx hb dX8_repair_43 rfl (lv_at hl 1 rfl) ?_
          have hP9 : va_P E.1 vwCl [(g0, .inr (8, [.ref gm, .ref gk, .ref gs, .ref ga, .ref gl, .ref gh, .ref gd, .int wA, .int wB, .int wU])), (gd, .inl (E.2 6, 4, .inr (.inr (.inr (.inr fd))))), (q0, .inr (2, [.ref b0, .int 0, .int m0, .int 0])), (b0, .inl (E.2 1, 200, .inl f0)), (q1, .inr (2, [.ref b1, .int 0, .int m1, .int 0])), (b1, .inl (E.2 1, 200, .inl f1)), (q2, .inr (2, [.ref b2, .int 0, .int m2, .int 0])), (b2, .inl (E.2 1, 200, .inl f2)), (q3, .inr (2, [.ref b3, .int 0, .int m3, .int 0])), (b3, .inl (E.2 1, 200, .inl f3))] H := hP.sub [0, 1, 2, 3, 4, 5, 6, 7, 8, 9] rfl
          have hD9 : va_D A [(g0, .inr (8, [.ref gm, .ref gk, .ref gs, .ref ga, .ref gl, .ref gh, .ref gd, .int wA, .int wB, .int wU])), (gd, .inl (E.2 6, 4, .inr (.inr (.inr (.inr fd))))), (q0, .inr (2, [.ref b0, .int 0, .int m0, .int 0])), (b0, .inl (E.2 1, 200, .inl f0)), (q1, .inr (2, [.ref b1, .int 0, .int m1, .int 0])), (b1, .inl (E.2 1, 200, .inl f1)), (q2, .inr (2, [.ref b2, .int 0, .int m2, .int 0])), (b2, .inl (E.2 1, 200, .inl f2)), (q3, .inr (2, [.ref b3, .int 0, .int m3, .int 0])), (b3, .inl (E.2 1, 200, .inl f3))] := hD.sub [0, 1, 2, 3, 4, 5, 6, 7, 8, 9] (by decide) rfl
          exact W.iret (v := 2) hx hb hr (fun t9 ht9 hW9 => ⟨⟨2, (), rfl, by simp only [bzN, bz, d0, d1, d2, d3, if_true, if_false]; try rfl, ⟨by rw [ht9]; exact hP9, hD9⟩⟩, hS.F ht9⟩) hS.2.2 dX8_repair_44
    · refine lv_iinc (v := 1) (lv' := [(1, .int 1), (2, .int 1), (0, .ref g0)]) hx hb dX8_repair_25 hl (k := 1) rfl (by decide) (by decide) rfl (fun ls hl => ?_)
      have d1 := c_22
      refine lv_aload_n hx hb dX8_repair_28 rfl (lv_at hl 2 rfl) ?_
      refine va_get (D := E.1) (ci := 8) (v := .ref gd) (C := RX8) (T := TX8) (N := 10) hx hb hts hinX8 hown hK hP 0 rfl rfl 6 (by decide) (hts (.fieldLink RX8 52 "WornRings" "loads" "[LWornRings$Load;") (by decide +kernel)) (fun _ h9 => h9) rfl dX8_repair_29 ?_
      refine lv_iload_n hx hb dX8_repair_32 rfl (lv_at hl 1 rfl) ?_
      refine va_aldq hx hb hK hP 1 6 rfl rfl (by unfold vp_in; decide) dX8_repair_33 ?_
      refine W.eq (g2 := F0 m 34 ls [va_rf (fd 1)]) rfl ?_
      rw [hq1]
      refine W.eq (g2 := F0 m 34 ls [.ref q1]) rfl ?_
      refine wVv (wr := [(g0, .inr (8, [.ref gm, .ref gk, .ref gs, .ref ga, .ref gl, .ref gh, .ref gd, .int wA, .int wB, .int wU])), (gd, .inl (E.2 6, 4, .inr (.inr (.inr (.inr fd))))), (q2, .inr (2, [.ref b2, .int k2, .int m2, .int w2])), (b2, .inl (E.2 1, 200, .inl f2)), (q3, .inr (2, [.ref b3, .int k3, .int m3, .int w3])), (b3, .inl (E.2 1, 200, .inl f3)), (q0, .inr (2, [.ref b0, .int 0, .int m0, .int 0])), (b0, .inl (E.2 1, 200, .inl f0))]) hE ⟨hx, hb, hml, hown, hts⟩ (c_X2_clear l E H.size q1 b1 k1 m1 w1 f1 ) (cwV 0 hts gX8_repair_X2_clear rfl rfl rfl (by decide +kernel) ⟨Nat.le_of_ble_eq_true rfl, Nat.le_of_ble_eq_true rfl⟩) hP hD hS hA [2, 3] [0, 1, 4, 5, 6, 7, 8, 9] rfl rfl (by decide) (by decide) (by decide) 0 2 rfl rfl rfl hl.1 rfl (Nat.le_of_ble_eq_true rfl) dX8_repair_34 ⟨(Nat.zero_le _), (Nat.zero_le _)⟩ (fun u H locs hw hP hD hS => ?_)
      have hP : va_P E.1 vwCl [(g0, .inr (8, [.ref gm, .ref gk, .ref gs, .ref ga, .ref gl, .ref gh, .ref gd, .int wA, .int wB, .int wU])), (gd, .inl (E.2 6, 4, .inr (.inr (.inr (.inr fd))))), (q2, .inr (2, [.ref b2, .int k2, .int m2, .int w2])), (b2, .inl (E.2 1, 200, .inl f2)), (q3, .inr (2, [.ref b3, .int k3, .int m3, .int w3])), (b3, .inl (E.2 1, 200, .inl f3)), (q0, .inr (2, [.ref b0, .int 0, .int m0, .int 0])), (b0, .inl (E.2 1, 200, .inl f0)), (q1, .inr (2, [.ref b1, .int 0, .int m1, .int 0])), (b1, .inl (E.2 1, 200, .inl f1))] H := hP
      have hD : va_D A [(g0, .inr (8, [.ref gm, .ref gk, .ref gs, .ref ga, .ref gl, .ref gh, .ref gd, .int wA, .int wB, .int wU])), (gd, .inl (E.2 6, 4, .inr (.inr (.inr (.inr fd))))), (q2, .inr (2, [.ref b2, .int k2, .int m2, .int w2])), (b2, .inl (E.2 1, 200, .inl f2)), (q3, .inr (2, [.ref b3, .int k3, .int m3, .int w3])), (b3, .inl (E.2 1, 200, .inl f3)), (q0, .inr (2, [.ref b0, .int 0, .int m0, .int 0])), (b0, .inl (E.2 1, 200, .inl f0)), (q1, .inr (2, [.ref b1, .int 0, .int m1, .int 0])), (b1, .inl (E.2 1, 200, .inl f1))] := hD
      refine lv_iinc (v := 2) (lv' := [(2, .int 2), (1, .int 1), (0, .ref g0)]) hx hb dX8_repair_37 hl (k := 1) rfl (by decide) (by decide) rfl (fun ls hl => ?_)
      refine lv_goto (tgt := 4) hx hb dX8_repair_40 (by decide) ?_
      refine lv_iload_n hx hb dX8_repair_4 rfl (lv_at hl 0 rfl) ?_
      refine lv_aload_n hx hb dX8_repair_5 rfl (lv_at hl 2 rfl) ?_
      refine va_get (D := E.1) (ci := 8) (v := .ref gd) (C := RX8) (T := TX8) (N := 10) hx hb hts hinX8 hown hK hP 0 rfl rfl 6 (by decide) (hts (.fieldLink RX8 52 "WornRings" "loads" "[LWornRings$Load;") (by decide +kernel)) (fun _ h9 => h9) rfl dX8_repair_6 ?_
      refine va_alen (v := 4) hx hb hK hP 1 6 rfl rfl rfl dX8_repair_9 ?_
      refine lv_icmp_ge (tgt := 43) hx hb dX8_repair_10 (by decide) (fun c_10 => by exfalso; revert c_10; decide) (fun c_10 => ?_)
      refine lv_aload_n hx hb dX8_repair_13 rfl (lv_at hl 2 rfl) ?_
      refine va_get (D := E.1) (ci := 8) (v := .ref gd) (C := RX8) (T := TX8) (N := 10) hx hb hts hinX8 hown hK hP 0 rfl rfl 6 (by decide) (hts (.fieldLink RX8 52 "WornRings" "loads" "[LWornRings$Load;") (by decide +kernel)) (fun _ h9 => h9) rfl dX8_repair_14 ?_
      refine lv_iload_n hx hb dX8_repair_17 rfl (lv_at hl 0 rfl) ?_
      refine va_aldq hx hb hK hP 1 6 rfl rfl (by unfold vp_in; decide) dX8_repair_18 ?_
      refine W.eq (g2 := F0 m 19 ls [va_rf (fd 2)]) rfl ?_
      rw [hq2]
      refine W.eq (g2 := F0 m 19 ls [.ref q2]) rfl ?_
      refine va_getN (D := E.1) (host := "WornRings") (ref := "WornRings$Load") (ci := 2) (v := .int w2) (C := RX2) (T := TX2) (N := 4) hx hb hts hinX2 hown hK hP 2 rfl rfl 3 (by decide) (va_Nw.use rfl (hNN (.fieldLinkNest RX8 223 "WornRings$Load" "warning" "Z" "WornRings") (by decide +kernel))) (fun _ h9 => h9) rfl dX8_repair_19 ?_
      refine lv_if_eq (tgt := 28) hx hb dX8_repair_22 (by decide) (fun c_22 => ?_) (fun c_22 => ?_)
      · have d2 := c_22
        refine lv_aload_n hx hb dX8_repair_28 rfl (lv_at hl 2 rfl) ?_
        refine va_get (D := E.1) (ci := 8) (v := .ref gd) (C := RX8) (T := TX8) (N := 10) hx hb hts hinX8 hown hK hP 0 rfl rfl 6 (by decide) (hts (.fieldLink RX8 52 "WornRings" "loads" "[LWornRings$Load;") (by decide +kernel)) (fun _ h9 => h9) rfl dX8_repair_29 ?_
        refine lv_iload_n hx hb dX8_repair_32 rfl (lv_at hl 0 rfl) ?_
        refine va_aldq hx hb hK hP 1 6 rfl rfl (by unfold vp_in; decide) dX8_repair_33 ?_
        refine W.eq (g2 := F0 m 34 ls [va_rf (fd 2)]) rfl ?_
        rw [hq2]
        refine W.eq (g2 := F0 m 34 ls [.ref q2]) rfl ?_
        refine wVv (wr := [(g0, .inr (8, [.ref gm, .ref gk, .ref gs, .ref ga, .ref gl, .ref gh, .ref gd, .int wA, .int wB, .int wU])), (gd, .inl (E.2 6, 4, .inr (.inr (.inr (.inr fd))))), (q3, .inr (2, [.ref b3, .int k3, .int m3, .int w3])), (b3, .inl (E.2 1, 200, .inl f3)), (q0, .inr (2, [.ref b0, .int 0, .int m0, .int 0])), (b0, .inl (E.2 1, 200, .inl f0)), (q1, .inr (2, [.ref b1, .int 0, .int m1, .int 0])), (b1, .inl (E.2 1, 200, .inl f1))]) hE ⟨hx, hb, hml, hown, hts⟩ (c_X2_clear l E H.size q2 b2 k2 m2 w2 f2 ) (cwV 0 hts gX8_repair_X2_clear rfl rfl rfl (by decide +kernel) ⟨Nat.le_of_ble_eq_true rfl, Nat.le_of_ble_eq_true rfl⟩) hP hD hS hA [2, 3] [0, 1, 4, 5, 6, 7, 8, 9] rfl rfl (by decide) (by decide) (by decide) 0 2 rfl rfl rfl hl.1 rfl (Nat.le_of_ble_eq_true rfl) dX8_repair_34 ⟨(Nat.zero_le _), (Nat.zero_le _)⟩ (fun u H locs hw hP hD hS => ?_)
        have hP : va_P E.1 vwCl [(g0, .inr (8, [.ref gm, .ref gk, .ref gs, .ref ga, .ref gl, .ref gh, .ref gd, .int wA, .int wB, .int wU])), (gd, .inl (E.2 6, 4, .inr (.inr (.inr (.inr fd))))), (q3, .inr (2, [.ref b3, .int k3, .int m3, .int w3])), (b3, .inl (E.2 1, 200, .inl f3)), (q0, .inr (2, [.ref b0, .int 0, .int m0, .int 0])), (b0, .inl (E.2 1, 200, .inl f0)), (q1, .inr (2, [.ref b1, .int 0, .int m1, .int 0])), (b1, .inl (E.2 1, 200, .inl f1)), (q2, .inr (2, [.ref b2, .int 0, .int m2, .int 0])), (b2, .inl (E.2 1, 200, .inl f2))] H := hP
        have hD : va_D A [(g0, .inr (8, [.ref gm, .ref gk, .ref gs, .ref ga, .ref gl, .ref gh, .ref gd, .int wA, .int wB, .int wU])), (gd, .inl (E.2 6, 4, .inr (.inr (.inr (.inr fd))))), (q3, .inr (2, [.ref b3, .int k3, .int m3, .int w3])), (b3, .inl (E.2 1, 200, .inl f3)), (q0, .inr (2, [.ref b0, .int 0, .int m0, .int 0])), (b0, .inl (E.2 1, 200, .inl f0)), (q1, .inr (2, [.ref b1, .int 0, .int m1, .int 0])), (b1, .inl (E.2 1, 200, .inl f1)), (q2, .inr (2, [.ref b2, .int 0, .int m2, .int 0])), (b2, .inl (E.2 1, 200, .inl f2))] := hD
        refine lv_iinc (v := 3) (lv' := [(2, .int 3), (1, .int 1), (0, .ref g0)]) hx hb dX8_repair_37 hl (k := 0) rfl (by decide) (by decide) rfl (fun ls hl => ?_)
        refine lv_goto (tgt := 4) hx hb dX8_repair_40 (by decide) ?_
        refine lv_iload_n hx hb dX8_repair_4 rfl (lv_at hl 0 rfl) ?_
        refine lv_aload_n hx hb dX8_repair_5 rfl (lv_at hl 2 rfl) ?_
        refine va_get (D := E.1) (ci := 8) (v := .ref gd) (C := RX8) (T := TX8) (N := 10) hx hb hts hinX8 hown hK hP 0 rfl rfl 6 (by decide) (hts (.fieldLink RX8 52 "WornRings" "loads" "[LWornRings$Load;") (by decide +kernel)) (fun _ h9 => h9) rfl dX8_repair_6 ?_
        refine va_alen (v := 4) hx hb hK hP 1 6 rfl rfl rfl dX8_repair_9 ?_
        refine lv_icmp_ge (tgt := 43) hx hb dX8_repair_10 (by decide) (fun c_10 => by exfalso; revert c_10; decide) (fun c_10 => ?_)
        refine lv_aload_n hx hb dX8_repair_13 rfl (lv_at hl 2 rfl) ?_
        refine va_get (D := E.1) (ci := 8) (v := .ref gd) (C := RX8) (T := TX8) (N := 10) hx hb hts hinX8 hown hK hP 0 rfl rfl 6 (by decide) (hts (.fieldLink RX8 52 "WornRings" "loads" "[LWornRings$Load;") (by decide +kernel)) (fun _ h9 => h9) rfl dX8_repair_14 ?_
        refine lv_iload_n hx hb dX8_repair_17 rfl (lv_at hl 0 rfl) ?_
        refine va_aldq hx hb hK hP 1 6 rfl rfl (by unfold vp_in; decide) dX8_repair_18 ?_
        refine W.eq (g2 := F0 m 19 ls [va_rf (fd 3)]) rfl ?_
        rw [hq3]
        refine W.eq (g2 := F0 m 19 ls [.ref q3]) rfl ?_
        refine va_getN (D := E.1) (host := "WornRings") (ref := "WornRings$Load") (ci := 2) (v := .int w3) (C := RX2) (T := TX2) (N := 4) hx hb hts hinX2 hown hK hP 2 rfl rfl 3 (by decide) (va_Nw.use rfl (hNN (.fieldLinkNest RX8 223 "WornRings$Load" "warning" "Z" "WornRings") (by decide +kernel))) (fun _ h9 => h9) rfl dX8_repair_19 ?_
        refine lv_if_eq (tgt := 28) hx hb dX8_repair_22 (by decide) (fun c_22 => ?_) (fun c_22 => ?_)
        · have d3 := c_22
          refine lv_aload_n hx hb dX8_repair_28 rfl (lv_at hl 2 rfl) ?_
          refine va_get (D := E.1) (ci := 8) (v := .ref gd) (C := RX8) (T := TX8) (N := 10) hx hb hts hinX8 hown hK hP 0 rfl rfl 6 (by decide) (hts (.fieldLink RX8 52 "WornRings" "loads" "[LWornRings$Load;") (by decide +kernel)) (fun _ h9 => h9) rfl dX8_repair_29 ?_
          refine lv_iload_n hx hb dX8_repair_32 rfl (lv_at hl 0 rfl) ?_
          refine va_aldq hx hb hK hP 1 6 rfl rfl (by unfold vp_in; decide) dX8_repair_33 ?_
          refine W.eq (g2 := F0 m 34 ls [va_rf (fd 3)]) rfl ?_
          rw [hq3]
          refine W.eq (g2 := F0 m 34 ls [.ref q3]) rfl ?_
          refine wVv (wr := [(g0, .inr (8, [.ref gm, .ref gk, .ref gs, .ref ga, .ref gl, .ref gh, .ref gd, .int wA, .int wB, .int wU])), (gd, .inl (E.2 6, 4, .inr (.inr (.inr (.inr fd))))), (q0, .inr (2, [.ref b0, .int 0, .int m0, .int 0])), (b0, .inl (E.2 1, 200, .inl f0)), (q1, .inr (2, [.ref b1, .int 0, .int m1, .int 0])), (b1, .inl (E.2 1, 200, .inl f1)), (q2, .inr (2, [.ref b2, .int 0, .int m2, .int 0])), (b2, .inl (E.2 1, 200, .inl f2))]) hE ⟨hx, hb, hml, hown, hts⟩ (c_X2_clear l E H.size q3 b3 k3 m3 w3 f3 ) (cwV 0 hts gX8_repair_X2_clear rfl rfl rfl (by decide +kernel) ⟨Nat.le_of_ble_eq_true rfl, Nat.le_of_ble_eq_true rfl⟩) hP hD hS hA [2, 3] [0, 1, 4, 5, 6, 7, 8, 9] rfl rfl (by decide) (by decide) (by decide) 0 2 rfl rfl rfl hl.1 rfl (Nat.le_of_ble_eq_true rfl) dX8_repair_34 ⟨(Nat.zero_le _), (Nat.zero_le _)⟩ (fun u H locs hw hP hD hS => ?_)
          have hP : va_P E.1 vwCl [(g0, .inr (8, [.ref gm, .ref gk, .ref gs, .ref ga, .ref gl, .ref gh, .ref gd, .int wA, .int wB, .int wU])), (gd, .inl (E.2 6, 4, .inr (.inr (.inr (.inr fd))))), (q0, .inr (2, [.ref b0, .int 0, .int m0, .int 0])), (b0, .inl (E.2 1, 200, .inl f0)), (q1, .inr (2, [.ref b1, .int 0, .int m1, .int 0])), (b1, .inl (E.2 1, 200, .inl f1)), (q2, .inr (2, [.ref b2, .int 0, .int m2, .int 0])), (b2, .inl (E.2 1, 200, .inl f2)), (q3, .inr (2, [.ref b3, .int 0, .int m3, .int 0])), (b3, .inl (E.2 1, 200, .inl f3))] H := hP
          have hD : va_D A [(g0, .inr (8, [.ref gm, .ref gk, .ref gs, .ref ga, .ref gl, .ref gh, .ref gd, .int wA, .int wB, .int wU])), (gd, .inl (E.2 6, 4, .inr (.inr (.inr (.inr fd))))), (q0, .inr (2, [.ref b0, .int 0, .int m0, .int 0])), (b0, .inl (E.2 1, 200, .inl f0)), (q1, .inr (2, [.ref b1, .int 0, .int m1, .int 0])), (b1, .inl (E.2 1, 200, .inl f1)), (q2, .inr (2, [.ref b2, .int 0, .int m2, .int 0])), (b2, .inl (E.2 1, 200, .inl f2)), (q3, .inr (2, [.ref b3, .int 0, .int m3, .int 0])), (b3, .inl (E.2 1, 200, .inl f3))] := hD
          refine lv_iinc (v := 4) (lv' := [(2, .int 4), (1, .int 1), (0, .ref g0)]) hx hb dX8_repair_37 hl (k := 0) rfl (by decide) (by decide) rfl (fun ls hl => ?_)
          refine lv_goto (tgt := 4) hx hb dX8_repair_40 (by decide) ?_
          refine lv_iload_n hx hb dX8_repair_4 rfl (lv_at hl 0 rfl) ?_
          refine lv_aload_n hx hb dX8_repair_5 rfl (lv_at hl 2 rfl) ?_
          refine va_get (D := E.1) (ci := 8) (v := .ref gd) (C := RX8) (T := TX8) (N := 10) hx hb hts hinX8 hown hK hP 0 rfl rfl 6 (by decide) (hts (.fieldLink RX8 52 "WornRings" "loads" "[LWornRings$Load;") (by decide +kernel)) (fun _ h9 => h9) rfl dX8_repair_6 ?_
          refine va_alen (v := 4) hx hb hK hP 1 6 rfl rfl rfl dX8_repair_9 ?_
          refine lv_icmp_ge (tgt := 43) hx hb dX8_repair_10 (by decide) (fun c_10 => ?_) (fun c_10 => by exfalso; revert c_10; decide)
          refine lv_iload_n hx hb dX8_repair_43 rfl (lv_at hl 1 rfl) ?_
          have hP9 : va_P E.1 vwCl [(g0, .inr (8, [.ref gm, .ref gk, .ref gs, .ref ga, .ref gl, .ref gh, .ref gd, .int wA, .int wB, .int wU])), (gd, .inl (E.2 6, 4, .inr (.inr (.inr (.inr fd))))), (q0, .inr (2, [.ref b0, .int 0, .int m0, .int 0])), (b0, .inl (E.2 1, 200, .inl f0)), (q1, .inr (2, [.ref b1, .int 0, .int m1, .int 0])), (b1, .inl (E.2 1, 200, .inl f1)), (q2, .inr (2, [.ref b2, .int 0, .int m2, .int 0])), (b2, .inl (E.2 1, 200, .inl f2)), (q3, .inr (2, [.ref b3, .int 0, .int m3, .int 0])), (b3, .inl (E.2 1, 200, .inl f3))] H := hP.sub [0, 1, 2, 3, 4, 5, 6, 7, 8, 9] rfl
          have hD9 : va_D A [(g0, .inr (8, [.ref gm, .ref gk, .ref gs, .ref ga, .ref gl, .ref gh, .ref gd, .int wA, .int wB, .int wU])), (gd, .inl (E.2 6, 4, .inr (.inr (.inr (.inr fd))))), (q0, .inr (2, [.ref b0, .int 0, .int m0, .int 0])), (b0, .inl (E.2 1, 200, .inl f0)), (q1, .inr (2, [.ref b1, .int 0, .int m1, .int 0])), (b1, .inl (E.2 1, 200, .inl f1)), (q2, .inr (2, [.ref b2, .int 0, .int m2, .int 0])), (b2, .inl (E.2 1, 200, .inl f2)), (q3, .inr (2, [.ref b3, .int 0, .int m3, .int 0])), (b3, .inl (E.2 1, 200, .inl f3))] := hD.sub [0, 1, 2, 3, 4, 5, 6, 7, 8, 9] (by decide) rfl
          exact W.iret (v := 1) hx hb hr (fun t9 ht9 hW9 => ⟨⟨1, (), rfl, by simp only [bzN, bz, d0, d1, d2, d3, if_true, if_false]; try rfl, ⟨by rw [ht9]; exact hP9, hD9⟩⟩, hS.F ht9⟩) hS.2.2 dX8_repair_44
        · refine lv_iinc (v := 2) (lv' := [(1, .int 2), (2, .int 3), (0, .ref g0)]) hx hb dX8_repair_25 hl (k := 1) rfl (by decide) (by decide) rfl (fun ls hl => ?_)
          have d3 := c_22
          refine lv_aload_n hx hb dX8_repair_28 rfl (lv_at hl 2 rfl) ?_
          refine va_get (D := E.1) (ci := 8) (v := .ref gd) (C := RX8) (T := TX8) (N := 10) hx hb hts hinX8 hown hK hP 0 rfl rfl 6 (by decide) (hts (.fieldLink RX8 52 "WornRings" "loads" "[LWornRings$Load;") (by decide +kernel)) (fun _ h9 => h9) rfl dX8_repair_29 ?_
          refine lv_iload_n hx hb dX8_repair_32 rfl (lv_at hl 1 rfl) ?_
          refine va_aldq hx hb hK hP 1 6 rfl rfl (by unfold vp_in; decide) dX8_repair_33 ?_
          refine W.eq (g2 := F0 m 34 ls [va_rf (fd 3)]) rfl ?_
          rw [hq3]
          refine W.eq (g2 := F0 m 34 ls [.ref q3]) rfl ?_
          refine wVv (wr := [(g0, .inr (8, [.ref gm, .ref gk, .ref gs, .ref ga, .ref gl, .ref gh, .ref gd, .int wA, .int wB, .int wU])), (gd, .inl (E.2 6, 4, .inr (.inr (.inr (.inr fd))))), (q0, .inr (2, [.ref b0, .int 0, .int m0, .int 0])), (b0, .inl (E.2 1, 200, .inl f0)), (q1, .inr (2, [.ref b1, .int 0, .int m1, .int 0])), (b1, .inl (E.2 1, 200, .inl f1)), (q2, .inr (2, [.ref b2, .int 0, .int m2, .int 0])), (b2, .inl (E.2 1, 200, .inl f2))]) hE ⟨hx, hb, hml, hown, hts⟩ (c_X2_clear l E H.size q3 b3 k3 m3 w3 f3 ) (cwV 0 hts gX8_repair_X2_clear rfl rfl rfl (by decide +kernel) ⟨Nat.le_of_ble_eq_true rfl, Nat.le_of_ble_eq_true rfl⟩) hP hD hS hA [2, 3] [0, 1, 4, 5, 6, 7, 8, 9] rfl rfl (by decide) (by decide) (by decide) 0 2 rfl rfl rfl hl.1 rfl (Nat.le_of_ble_eq_true rfl) dX8_repair_34 ⟨(Nat.zero_le _), (Nat.zero_le _)⟩ (fun u H locs hw hP hD hS => ?_)
          have hP : va_P E.1 vwCl [(g0, .inr (8, [.ref gm, .ref gk, .ref gs, .ref ga, .ref gl, .ref gh, .ref gd, .int wA, .int wB, .int wU])), (gd, .inl (E.2 6, 4, .inr (.inr (.inr (.inr fd))))), (q0, .inr (2, [.ref b0, .int 0, .int m0, .int 0])), (b0, .inl (E.2 1, 200, .inl f0)), (q1, .inr (2, [.ref b1, .int 0, .int m1, .int 0])), (b1, .inl (E.2 1, 200, .inl f1)), (q2, .inr (2, [.ref b2, .int 0, .int m2, .int 0])), (b2, .inl (E.2 1, 200, .inl f2)), (q3, .inr (2, [.ref b3, .int 0, .int m3, .int 0])), (b3, .inl (E.2 1, 200, .inl f3))] H := hP
          have hD : va_D A [(g0, .inr (8, [.ref gm, .ref gk, .ref gs, .ref ga, .ref gl, .ref gh, .ref gd, .int wA, .int wB, .int wU])), (gd, .inl (E.2 6, 4, .inr (.inr (.inr (.inr fd))))), (q0, .inr (2, [.ref b0, .int 0, .int m0, .int 0])), (b0, .inl (E.2 1, 200, .inl f0)), (q1, .inr (2, [.ref b1, .int 0, .int m1, .int 0])), (b1, .inl (E.2 1, 200, .inl f1)), (q2, .inr (2, [.ref b2, .int 0, .int m2, .int 0])), (b2, .inl (E.2 1, 200, .inl f2)), (q3, .inr (2, [.ref b3, .int 0, .int m3, .int 0])), (b3, .inl (E.2 1, 200, .inl f3))] := hD
          refine lv_iinc (v := 4) (lv' := [(2, .int 4), (1, .int 2), (0, .ref g0)]) hx hb dX8_repair_37 hl (k := 1) rfl (by decide) (by decide) rfl (fun ls hl => ?_)
          refine lv_goto (tgt := 4) hx hb dX8_repair_40 (by decide) ?_
          refine lv_iload_n hx hb dX8_repair_4 rfl (lv_at hl 0 rfl) ?_
          refine lv_aload_n hx hb dX8_repair_5 rfl (lv_at hl 2 rfl) ?_
          refine va_get (D := E.1) (ci := 8) (v := .ref gd) (C := RX8) (T := TX8) (N := 10) hx hb hts hinX8 hown hK hP 0 rfl rfl 6 (by decide) (hts (.fieldLink RX8 52 "WornRings" "loads" "[LWornRings$Load;") (by decide +kernel)) (fun _ h9 => h9) rfl dX8_repair_6 ?_
          refine va_alen (v := 4) hx hb hK hP 1 6 rfl rfl rfl dX8_repair_9 ?_
          refine lv_icmp_ge (tgt := 43) hx hb dX8_repair_10 (by decide) (fun c_10 => ?_) (fun c_10 => by exfalso; revert c_10; decide)
          refine lv_iload_n hx hb dX8_repair_43 rfl (lv_at hl 1 rfl) ?_
          have hP9 : va_P E.1 vwCl [(g0, .inr (8, [.ref gm, .ref gk, .ref gs, .ref ga, .ref gl, .ref gh, .ref gd, .int wA, .int wB, .int wU])), (gd, .inl (E.2 6, 4, .inr (.inr (.inr (.inr fd))))), (q0, .inr (2, [.ref b0, .int 0, .int m0, .int 0])), (b0, .inl (E.2 1, 200, .inl f0)), (q1, .inr (2, [.ref b1, .int 0, .int m1, .int 0])), (b1, .inl (E.2 1, 200, .inl f1)), (q2, .inr (2, [.ref b2, .int 0, .int m2, .int 0])), (b2, .inl (E.2 1, 200, .inl f2)), (q3, .inr (2, [.ref b3, .int 0, .int m3, .int 0])), (b3, .inl (E.2 1, 200, .inl f3))] H := hP.sub [0, 1, 2, 3, 4, 5, 6, 7, 8, 9] rfl
          have hD9 : va_D A [(g0, .inr (8, [.ref gm, .ref gk, .ref gs, .ref ga, .ref gl, .ref gh, .ref gd, .int wA, .int wB, .int wU])), (gd, .inl (E.2 6, 4, .inr (.inr (.inr (.inr fd))))), (q0, .inr (2, [.ref b0, .int 0, .int m0, .int 0])), (b0, .inl (E.2 1, 200, .inl f0)), (q1, .inr (2, [.ref b1, .int 0, .int m1, .int 0])), (b1, .inl (E.2 1, 200, .inl f1)), (q2, .inr (2, [.ref b2, .int 0, .int m2, .int 0])), (b2, .inl (E.2 1, 200, .inl f2)), (q3, .inr (2, [.ref b3, .int 0, .int m3, .int 0])), (b3, .inl (E.2 1, 200, .inl f3))] := hD.sub [0, 1, 2, 3, 4, 5, 6, 7, 8, 9] (by decide) rfl
          exact W.iret (v := 2) hx hb hr (fun t9 ht9 hW9 => ⟨⟨2, (), rfl, by simp only [bzN, bz, d0, d1, d2, d3, if_true, if_false]; try rfl, ⟨by rw [ht9]; exact hP9, hD9⟩⟩, hS.F ht9⟩) hS.2.2 dX8_repair_44
      · refine lv_iinc (v := 2) (lv' := [(1, .int 2), (2, .int 2), (0, .ref g0)]) hx hb dX8_repair_25 hl (k := 1) rfl (by decide) (by decide) rfl (fun ls hl => ?_)
        have d2 := c_22
        refine lv_aload_n hx hb dX8_repair_28 rfl (lv_at hl 2 rfl) ?_
        refine va_get (D := E.1) (ci := 8) (v := .ref gd) (C := RX8) (T := TX8) (N := 10) hx hb hts hinX8 hown hK hP 0 rfl rfl 6 (by decide) (hts (.fieldLink RX8 52 "WornRings" "loads" "[LWornRings$Load;") (by decide +kernel)) (fun _ h9 => h9) rfl dX8_repair_29 ?_
        refine lv_iload_n hx hb dX8_repair_32 rfl (lv_at hl 1 rfl) ?_
        refine va_aldq hx hb hK hP 1 6 rfl rfl (by unfold vp_in; decide) dX8_repair_33 ?_
        refine W.eq (g2 := F0 m 34 ls [va_rf (fd 2)]) rfl ?_
        rw [hq2]
        refine W.eq (g2 := F0 m 34 ls [.ref q2]) rfl ?_
        refine wVv (wr := [(g0, .inr (8, [.ref gm, .ref gk, .ref gs, .ref ga, .ref gl, .ref gh, .ref gd, .int wA, .int wB, .int wU])), (gd, .inl (E.2 6, 4, .inr (.inr (.inr (.inr fd))))), (q3, .inr (2, [.ref b3, .int k3, .int m3, .int w3])), (b3, .inl (E.2 1, 200, .inl f3)), (q0, .inr (2, [.ref b0, .int 0, .int m0, .int 0])), (b0, .inl (E.2 1, 200, .inl f0)), (q1, .inr (2, [.ref b1, .int 0, .int m1, .int 0])), (b1, .inl (E.2 1, 200, .inl f1))]) hE ⟨hx, hb, hml, hown, hts⟩ (c_X2_clear l E H.size q2 b2 k2 m2 w2 f2 ) (cwV 0 hts gX8_repair_X2_clear rfl rfl rfl (by decide +kernel) ⟨Nat.le_of_ble_eq_true rfl, Nat.le_of_ble_eq_true rfl⟩) hP hD hS hA [2, 3] [0, 1, 4, 5, 6, 7, 8, 9] rfl rfl (by decide) (by decide) (by decide) 0 2 rfl rfl rfl hl.1 rfl (Nat.le_of_ble_eq_true rfl) dX8_repair_34 ⟨(Nat.zero_le _), (Nat.zero_le _)⟩ (fun u H locs hw hP hD hS => ?_)
        have hP : va_P E.1 vwCl [(g0, .inr (8, [.ref gm, .ref gk, .ref gs, .ref ga, .ref gl, .ref gh, .ref gd, .int wA, .int wB, .int wU])), (gd, .inl (E.2 6, 4, .inr (.inr (.inr (.inr fd))))), (q3, .inr (2, [.ref b3, .int k3, .int m3, .int w3])), (b3, .inl (E.2 1, 200, .inl f3)), (q0, .inr (2, [.ref b0, .int 0, .int m0, .int 0])), (b0, .inl (E.2 1, 200, .inl f0)), (q1, .inr (2, [.ref b1, .int 0, .int m1, .int 0])), (b1, .inl (E.2 1, 200, .inl f1)), (q2, .inr (2, [.ref b2, .int 0, .int m2, .int 0])), (b2, .inl (E.2 1, 200, .inl f2))] H := hP
        have hD : va_D A [(g0, .inr (8, [.ref gm, .ref gk, .ref gs, .ref ga, .ref gl, .ref gh, .ref gd, .int wA, .int wB, .int wU])), (gd, .inl (E.2 6, 4, .inr (.inr (.inr (.inr fd))))), (q3, .inr (2, [.ref b3, .int k3, .int m3, .int w3])), (b3, .inl (E.2 1, 200, .inl f3)), (q0, .inr (2, [.ref b0, .int 0, .int m0, .int 0])), (b0, .inl (E.2 1, 200, .inl f0)), (q1, .inr (2, [.ref b1, .int 0, .int m1, .int 0])), (b1, .inl (E.2 1, 200, .inl f1)), (q2, .inr (2, [.ref b2, .int 0, .int m2, .int 0])), (b2, .inl (E.2 1, 200, .inl f2))] := hD
        refine lv_iinc (v := 3) (lv' := [(2, .int 3), (1, .int 2), (0, .ref g0)]) hx hb dX8_repair_37 hl (k := 1) rfl (by decide) (by decide) rfl (fun ls hl => ?_)
        refine lv_goto (tgt := 4) hx hb dX8_repair_40 (by decide) ?_
        refine lv_iload_n hx hb dX8_repair_4 rfl (lv_at hl 0 rfl) ?_
        refine lv_aload_n hx hb dX8_repair_5 rfl (lv_at hl 2 rfl) ?_
        refine va_get (D := E.1) (ci := 8) (v := .ref gd) (C := RX8) (T := TX8) (N := 10) hx hb hts hinX8 hown hK hP 0 rfl rfl 6 (by decide) (hts (.fieldLink RX8 52 "WornRings" "loads" "[LWornRings$Load;") (by decide +kernel)) (fun _ h9 => h9) rfl dX8_repair_6 ?_
        refine va_alen (v := 4) hx hb hK hP 1 6 rfl rfl rfl dX8_repair_9 ?_
        refine lv_icmp_ge (tgt := 43) hx hb dX8_repair_10 (by decide) (fun c_10 => by exfalso; revert c_10; decide) (fun c_10 => ?_)
        refine lv_aload_n hx hb dX8_repair_13 rfl (lv_at hl 2 rfl) ?_
        refine va_get (D := E.1) (ci := 8) (v := .ref gd) (C := RX8) (T := TX8) (N := 10) hx hb hts hinX8 hown hK hP 0 rfl rfl 6 (by decide) (hts (.fieldLink RX8 52 "WornRings" "loads" "[LWornRings$Load;") (by decide +kernel)) (fun _ h9 => h9) rfl dX8_repair_14 ?_
        refine lv_iload_n hx hb dX8_repair_17 rfl (lv_at hl 0 rfl) ?_
        refine va_aldq hx hb hK hP 1 6 rfl rfl (by unfold vp_in; decide) dX8_repair_18 ?_
        refine W.eq (g2 := F0 m 19 ls [va_rf (fd 3)]) rfl ?_
        rw [hq3]
        refine W.eq (g2 := F0 m 19 ls [.ref q3]) rfl ?_
        refine va_getN (D := E.1) (host := "WornRings") (ref := "WornRings$Load") (ci := 2) (v := .int w3) (C := RX2) (T := TX2) (N := 4) hx hb hts hinX2 hown hK hP 2 rfl rfl 3 (by decide) (va_Nw.use rfl (hNN (.fieldLinkNest RX8 223 "WornRings$Load" "warning" "Z" "WornRings") (by decide +kernel))) (fun _ h9 => h9) rfl dX8_repair_19 ?_
        refine lv_if_eq (tgt := 28) hx hb dX8_repair_22 (by decide) (fun c_22 => ?_) (fun c_22 => ?_)
        · have d3 := c_22
          refine lv_aload_n hx hb dX8_repair_28 rfl (lv_at hl 2 rfl) ?_
          refine va_get (D := E.1) (ci := 8) (v := .ref gd) (C := RX8) (T := TX8) (N := 10) hx hb hts hinX8 hown hK hP 0 rfl rfl 6 (by decide) (hts (.fieldLink RX8 52 "WornRings" "loads" "[LWornRings$Load;") (by decide +kernel)) (fun _ h9 => h9) rfl dX8_repair_29 ?_
          refine lv_iload_n hx hb dX8_repair_32 rfl (lv_at hl 0 rfl) ?_
          refine va_aldq hx hb hK hP 1 6 rfl rfl (by unfold vp_in; decide) dX8_repair_33 ?_
          refine W.eq (g2 := F0 m 34 ls [va_rf (fd 3)]) rfl ?_
          rw [hq3]
          refine W.eq (g2 := F0 m 34 ls [.ref q3]) rfl ?_
          refine wVv (wr := [(g0, .inr (8, [.ref gm, .ref gk, .ref gs, .ref ga, .ref gl, .ref gh, .ref gd, .int wA, .int wB, .int wU])), (gd, .inl (E.2 6, 4, .inr (.inr (.inr (.inr fd))))), (q0, .inr (2, [.ref b0, .int 0, .int m0, .int 0])), (b0, .inl (E.2 1, 200, .inl f0)), (q1, .inr (2, [.ref b1, .int 0, .int m1, .int 0])), (b1, .inl (E.2 1, 200, .inl f1)), (q2, .inr (2, [.ref b2, .int 0, .int m2, .int 0])), (b2, .inl (E.2 1, 200, .inl f2))]) hE ⟨hx, hb, hml, hown, hts⟩ (c_X2_clear l E H.size q3 b3 k3 m3 w3 f3 ) (cwV 0 hts gX8_repair_X2_clear rfl rfl rfl (by decide +kernel) ⟨Nat.le_of_ble_eq_true rfl, Nat.le_of_ble_eq_true rfl⟩) hP hD hS hA [2, 3] [0, 1, 4, 5, 6, 7, 8, 9] rfl rfl (by decide) (by decide) (by decide) 0 2 rfl rfl rfl hl.1 rfl (Nat.le_of_ble_eq_true rfl) dX8_repair_34 ⟨(Nat.zero_le _), (Nat.zero_le _)⟩ (fun u H locs hw hP hD hS => ?_)
          have hP : va_P E.1 vwCl [(g0, .inr (8, [.ref gm, .ref gk, .ref gs, .ref ga, .ref gl, .ref gh, .ref gd, .int wA, .int wB, .int wU])), (gd, .inl (E.2 6, 4, .inr (.inr (.inr (.inr fd))))), (q0, .inr (2, [.ref b0, .int 0, .int m0, .int 0])), (b0, .inl (E.2 1, 200, .inl f0)), (q1, .inr (2, [.ref b1, .int 0, .int m1, .int 0])), (b1, .inl (E.2 1, 200, .inl f1)), (q2, .inr (2, [.ref b2, .int 0, .int m2, .int 0])), (b2, .inl (E.2 1, 200, .inl f2)), (q3, .inr (2, [.ref b3, .int 0, .int m3, .int 0])), (b3, .inl (E.2 1, 200, .inl f3))] H := hP
          have hD : va_D A [(g0, .inr (8, [.ref gm, .ref gk, .ref gs, .ref ga, .ref gl, .ref gh, .ref gd, .int wA, .int wB, .int wU])), (gd, .inl (E.2 6, 4, .inr (.inr (.inr (.inr fd))))), (q0, .inr (2, [.ref b0, .int 0, .int m0, .int 0])), (b0, .inl (E.2 1, 200, .inl f0)), (q1, .inr (2, [.ref b1, .int 0, .int m1, .int 0])), (b1, .inl (E.2 1, 200, .inl f1)), (q2, .inr (2, [.ref b2, .int 0, .int m2, .int 0])), (b2, .inl (E.2 1, 200, .inl f2)), (q3, .inr (2, [.ref b3, .int 0, .int m3, .int 0])), (b3, .inl (E.2 1, 200, .inl f3))] := hD
          refine lv_iinc (v := 4) (lv' := [(2, .int 4), (1, .int 2), (0, .ref g0)]) hx hb dX8_repair_37 hl (k := 0) rfl (by decide) (by decide) rfl (fun ls hl => ?_)
          refine lv_goto (tgt := 4) hx hb dX8_repair_40 (by decide) ?_
          refine lv_iload_n hx hb dX8_repair_4 rfl (lv_at hl 0 rfl) ?_
          refine lv_aload_n hx hb dX8_repair_5 rfl (lv_at hl 2 rfl) ?_
          refine va_get (D := E.1) (ci := 8) (v := .ref gd) (C := RX8) (T := TX8) (N := 10) hx hb hts hinX8 hown hK hP 0 rfl rfl 6 (by decide) (hts (.fieldLink RX8 52 "WornRings" "loads" "[LWornRings$Load;") (by decide +kernel)) (fun _ h9 => h9) rfl dX8_repair_6 ?_
          refine va_alen (v := 4) hx hb hK hP 1 6 rfl rfl rfl dX8_repair_9 ?_
          refine lv_icmp_ge (tgt := 43) hx hb dX8_repair_10 (by decide) (fun c_10 => ?_) (fun c_10 => by exfalso; revert c_10; decide)
          refine lv_iload_n hx hb dX8_repair_43 rfl (lv_at hl 1 rfl) ?_
          have hP9 : va_P E.1 vwCl [(g0, .inr (8, [.ref gm, .ref gk, .ref gs, .ref ga, .ref gl, .ref gh, .ref gd, .int wA, .int wB, .int wU])), (gd, .inl (E.2 6, 4, .inr (.inr (.inr (.inr fd))))), (q0, .inr (2, [.ref b0, .int 0, .int m0, .int 0])), (b0, .inl (E.2 1, 200, .inl f0)), (q1, .inr (2, [.ref b1, .int 0, .int m1, .int 0])), (b1, .inl (E.2 1, 200, .inl f1)), (q2, .inr (2, [.ref b2, .int 0, .int m2, .int 0])), (b2, .inl (E.2 1, 200, .inl f2)), (q3, .inr (2, [.ref b3, .int 0, .int m3, .int 0])), (b3, .inl (E.2 1, 200, .inl f3))] H := hP.sub [0, 1, 2, 3, 4, 5, 6, 7, 8, 9] rfl
          have hD9 : va_D A [(g0, .inr (8, [.ref gm, .ref gk, .ref gs, .ref ga, .ref gl, .ref gh, .ref gd, .int wA, .int wB, .int wU])), (gd, .inl (E.2 6, 4, .inr (.inr (.inr (.inr fd))))), (q0, .inr (2, [.ref b0, .int 0, .int m0, .int 0])), (b0, .inl (E.2 1, 200, .inl f0)), (q1, .inr (2, [.ref b1, .int 0, .int m1, .int 0])), (b1, .inl (E.2 1, 200, .inl f1)), (q2, .inr (2, [.ref b2, .int 0, .int m2, .int 0])), (b2, .inl (E.2 1, 200, .inl f2)), (q3, .inr (2, [.ref b3, .int 0, .int m3, .int 0])), (b3, .inl (E.2 1, 200, .inl f3))] := hD.sub [0, 1, 2, 3, 4, 5, 6, 7, 8, 9] (by decide) rfl
          exact W.iret (v := 2) hx hb hr (fun t9 ht9 hW9 => ⟨⟨2, (), rfl, by simp only [bzN, bz, d0, d1, d2, d3, if_true, if_false]; try rfl, ⟨by rw [ht9]; exact hP9, hD9⟩⟩, hS.F ht9⟩) hS.2.2 dX8_repair_44
        · refine lv_iinc (v := 3) (lv' := [(1, .int 3), (2, .int 3), (0, .ref g0)]) hx hb dX8_repair_25 hl (k := 1) rfl (by decide) (by decide) rfl (fun ls hl => ?_)
          have d3 := c_22
          refine lv_aload_n hx hb dX8_repair_28 rfl (lv_at hl 2 rfl) ?_
          refine va_get (D := E.1) (ci := 8) (v := .ref gd) (C := RX8) (T := TX8) (N := 10) hx hb hts hinX8 hown hK hP 0 rfl rfl 6 (by decide) (hts (.fieldLink RX8 52 "WornRings" "loads" "[LWornRings$Load;") (by decide +kernel)) (fun _ h9 => h9) rfl dX8_repair_29 ?_
          refine lv_iload_n hx hb dX8_repair_32 rfl (lv_at hl 1 rfl) ?_
          refine va_aldq hx hb hK hP 1 6 rfl rfl (by unfold vp_in; decide) dX8_repair_33 ?_
          refine W.eq (g2 := F0 m 34 ls [va_rf (fd 3)]) rfl ?_
          rw [hq3]
          refine W.eq (g2 := F0 m 34 ls [.ref q3]) rfl ?_
          refine wVv (wr := [(g0, .inr (8, [.ref gm, .ref gk, .ref gs, .ref ga, .ref gl, .ref gh, .ref gd, .int wA, .int wB, .int wU])), (gd, .inl (E.2 6, 4, .inr (.inr (.inr (.inr fd))))), (q0, .inr (2, [.ref b0, .int 0, .int m0, .int 0])), (b0, .inl (E.2 1, 200, .inl f0)), (q1, .inr (2, [.ref b1, .int 0, .int m1, .int 0])), (b1, .inl (E.2 1, 200, .inl f1)), (q2, .inr (2, [.ref b2, .int 0, .int m2, .int 0])), (b2, .inl (E.2 1, 200, .inl f2))]) hE ⟨hx, hb, hml, hown, hts⟩ (c_X2_clear l E H.size q3 b3 k3 m3 w3 f3 ) (cwV 0 hts gX8_repair_X2_clear rfl rfl rfl (by decide +kernel) ⟨Nat.le_of_ble_eq_true rfl, Nat.le_of_ble_eq_true rfl⟩) hP hD hS hA [2, 3] [0, 1, 4, 5, 6, 7, 8, 9] rfl rfl (by decide) (by decide) (by decide) 0 2 rfl rfl rfl hl.1 rfl (Nat.le_of_ble_eq_true rfl) dX8_repair_34 ⟨(Nat.zero_le _), (Nat.zero_le _)⟩ (fun u H locs hw hP hD hS => ?_)
          have hP : va_P E.1 vwCl [(g0, .inr (8, [.ref gm, .ref gk, .ref gs, .ref ga, .ref gl, .ref gh, .ref gd, .int wA, .int wB, .int wU])), (gd, .inl (E.2 6, 4, .inr (.inr (.inr (.inr fd))))), (q0, .inr (2, [.ref b0, .int 0, .int m0, .int 0])), (b0, .inl (E.2 1, 200, .inl f0)), (q1, .inr (2, [.ref b1, .int 0, .int m1, .int 0])), (b1, .inl (E.2 1, 200, .inl f1)), (q2, .inr (2, [.ref b2, .int 0, .int m2, .int 0])), (b2, .inl (E.2 1, 200, .inl f2)), (q3, .inr (2, [.ref b3, .int 0, .int m3, .int 0])), (b3, .inl (E.2 1, 200, .inl f3))] H := hP
          have hD : va_D A [(g0, .inr (8, [.ref gm, .ref gk, .ref gs, .ref ga, .ref gl, .ref gh, .ref gd, .int wA, .int wB, .int wU])), (gd, .inl (E.2 6, 4, .inr (.inr (.inr (.inr fd))))), (q0, .inr (2, [.ref b0, .int 0, .int m0, .int 0])), (b0, .inl (E.2 1, 200, .inl f0)), (q1, .inr (2, [.ref b1, .int 0, .int m1, .int 0])), (b1, .inl (E.2 1, 200, .inl f1)), (q2, .inr (2, [.ref b2, .int 0, .int m2, .int 0])), (b2, .inl (E.2 1, 200, .inl f2)), (q3, .inr (2, [.ref b3, .int 0, .int m3, .int 0])), (b3, .inl (E.2 1, 200, .inl f3))] := hD
          refine lv_iinc (v := 4) (lv' := [(2, .int 4), (1, .int 3), (0, .ref g0)]) hx hb dX8_repair_37 hl (k := 1) rfl (by decide) (by decide) rfl (fun ls hl => ?_)
          refine lv_goto (tgt := 4) hx hb dX8_repair_40 (by decide) ?_
          refine lv_iload_n hx hb dX8_repair_4 rfl (lv_at hl 0 rfl) ?_
          refine lv_aload_n hx hb dX8_repair_5 rfl (lv_at hl 2 rfl) ?_
          refine va_get (D := E.1) (ci := 8) (v := .ref gd) (C := RX8) (T := TX8) (N := 10) hx hb hts hinX8 hown hK hP 0 rfl rfl 6 (by decide) (hts (.fieldLink RX8 52 "WornRings" "loads" "[LWornRings$Load;") (by decide +kernel)) (fun _ h9 => h9) rfl dX8_repair_6 ?_
          refine va_alen (v := 4) hx hb hK hP 1 6 rfl rfl rfl dX8_repair_9 ?_
          refine lv_icmp_ge (tgt := 43) hx hb dX8_repair_10 (by decide) (fun c_10 => ?_) (fun c_10 => by exfalso; revert c_10; decide)
          refine lv_iload_n hx hb dX8_repair_43 rfl (lv_at hl 1 rfl) ?_
          have hP9 : va_P E.1 vwCl [(g0, .inr (8, [.ref gm, .ref gk, .ref gs, .ref ga, .ref gl, .ref gh, .ref gd, .int wA, .int wB, .int wU])), (gd, .inl (E.2 6, 4, .inr (.inr (.inr (.inr fd))))), (q0, .inr (2, [.ref b0, .int 0, .int m0, .int 0])), (b0, .inl (E.2 1, 200, .inl f0)), (q1, .inr (2, [.ref b1, .int 0, .int m1, .int 0])), (b1, .inl (E.2 1, 200, .inl f1)), (q2, .inr (2, [.ref b2, .int 0, .int m2, .int 0])), (b2, .inl (E.2 1, 200, .inl f2)), (q3, .inr (2, [.ref b3, .int 0, .int m3, .int 0])), (b3, .inl (E.2 1, 200, .inl f3))] H := hP.sub [0, 1, 2, 3, 4, 5, 6, 7, 8, 9] rfl
          have hD9 : va_D A [(g0, .inr (8, [.ref gm, .ref gk, .ref gs, .ref ga, .ref gl, .ref gh, .ref gd, .int wA, .int wB, .int wU])), (gd, .inl (E.2 6, 4, .inr (.inr (.inr (.inr fd))))), (q0, .inr (2, [.ref b0, .int 0, .int m0, .int 0])), (b0, .inl (E.2 1, 200, .inl f0)), (q1, .inr (2, [.ref b1, .int 0, .int m1, .int 0])), (b1, .inl (E.2 1, 200, .inl f1)), (q2, .inr (2, [.ref b2, .int 0, .int m2, .int 0])), (b2, .inl (E.2 1, 200, .inl f2)), (q3, .inr (2, [.ref b3, .int 0, .int m3, .int 0])), (b3, .inl (E.2 1, 200, .inl f3))] := hD.sub [0, 1, 2, 3, 4, 5, 6, 7, 8, 9] (by decide) rfl
          exact W.iret (v := 3) hx hb hr (fun t9 ht9 hW9 => ⟨⟨3, (), rfl, by simp only [bzN, bz, d0, d1, d2, d3, if_true, if_false]; try rfl, ⟨by rw [ht9]; exact hP9, hD9⟩⟩, hS.F ht9⟩) hS.2.2 dX8_repair_44
  · refine lv_iinc (v := 1) (lv' := [(1, .int 1), (2, .int 0), (0, .ref g0)]) hx hb dX8_repair_25 hl (k := 1) rfl (by decide) (by decide) rfl (fun ls hl => ?_)
    have d0 := c_22
    refine lv_aload_n hx hb dX8_repair_28 rfl (lv_at hl 2 rfl) ?_
    refine va_get (D := E.1) (ci := 8) (v := .ref gd) (C := RX8) (T := TX8) (N := 10) hx hb hts hinX8 hown hK hP 0 rfl rfl 6 (by decide) (hts (.fieldLink RX8 52 "WornRings" "loads" "[LWornRings$Load;") (by decide +kernel)) (fun _ h9 => h9) rfl dX8_repair_29 ?_
    refine lv_iload_n hx hb dX8_repair_32 rfl (lv_at hl 1 rfl) ?_
    refine va_aldq hx hb hK hP 1 6 rfl rfl (by unfold vp_in; decide) dX8_repair_33 ?_
    refine W.eq (g2 := F0 m 34 ls [va_rf (fd 0)]) rfl ?_
    rw [hq0]
    refine W.eq (g2 := F0 m 34 ls [.ref q0]) rfl ?_
    refine wVv (wr := [(g0, .inr (8, [.ref gm, .ref gk, .ref gs, .ref ga, .ref gl, .ref gh, .ref gd, .int wA, .int wB, .int wU])), (gd, .inl (E.2 6, 4, .inr (.inr (.inr (.inr fd))))), (q1, .inr (2, [.ref b1, .int k1, .int m1, .int w1])), (b1, .inl (E.2 1, 200, .inl f1)), (q2, .inr (2, [.ref b2, .int k2, .int m2, .int w2])), (b2, .inl (E.2 1, 200, .inl f2)), (q3, .inr (2, [.ref b3, .int k3, .int m3, .int w3])), (b3, .inl (E.2 1, 200, .inl f3))]) hE ⟨hx, hb, hml, hown, hts⟩ (c_X2_clear l E s.heap.size q0 b0 k0 m0 w0 f0 ) (cwV 0 hts gX8_repair_X2_clear rfl rfl rfl (by decide +kernel) ⟨Nat.le_of_ble_eq_true rfl, Nat.le_of_ble_eq_true rfl⟩) hP hD hS hA [2, 3] [0, 1, 4, 5, 6, 7, 8, 9] rfl rfl (by decide) (by decide) (by decide) 0 2 rfl rfl rfl hl.1 rfl (Nat.le_of_ble_eq_true rfl) dX8_repair_34 ⟨(Nat.zero_le _), (Nat.zero_le _)⟩ (fun u H locs hw hP hD hS => ?_)
    have hP : va_P E.1 vwCl [(g0, .inr (8, [.ref gm, .ref gk, .ref gs, .ref ga, .ref gl, .ref gh, .ref gd, .int wA, .int wB, .int wU])), (gd, .inl (E.2 6, 4, .inr (.inr (.inr (.inr fd))))), (q1, .inr (2, [.ref b1, .int k1, .int m1, .int w1])), (b1, .inl (E.2 1, 200, .inl f1)), (q2, .inr (2, [.ref b2, .int k2, .int m2, .int w2])), (b2, .inl (E.2 1, 200, .inl f2)), (q3, .inr (2, [.ref b3, .int k3, .int m3, .int w3])), (b3, .inl (E.2 1, 200, .inl f3)), (q0, .inr (2, [.ref b0, .int 0, .int m0, .int 0])), (b0, .inl (E.2 1, 200, .inl f0))] H := hP
    have hD : va_D A [(g0, .inr (8, [.ref gm, .ref gk, .ref gs, .ref ga, .ref gl, .ref gh, .ref gd, .int wA, .int wB, .int wU])), (gd, .inl (E.2 6, 4, .inr (.inr (.inr (.inr fd))))), (q1, .inr (2, [.ref b1, .int k1, .int m1, .int w1])), (b1, .inl (E.2 1, 200, .inl f1)), (q2, .inr (2, [.ref b2, .int k2, .int m2, .int w2])), (b2, .inl (E.2 1, 200, .inl f2)), (q3, .inr (2, [.ref b3, .int k3, .int m3, .int w3])), (b3, .inl (E.2 1, 200, .inl f3)), (q0, .inr (2, [.ref b0, .int 0, .int m0, .int 0])), (b0, .inl (E.2 1, 200, .inl f0))] := hD
    refine lv_iinc (v := 1) (lv' := [(2, .int 1), (1, .int 1), (0, .ref g0)]) hx hb dX8_repair_37 hl (k := 1) rfl (by decide) (by decide) rfl (fun ls hl => ?_)
    refine lv_goto (tgt := 4) hx hb dX8_repair_40 (by decide) ?_
    refine lv_iload_n hx hb dX8_repair_4 rfl (lv_at hl 0 rfl) ?_
    refine lv_aload_n hx hb dX8_repair_5 rfl (lv_at hl 2 rfl) ?_
    refine va_get (D := E.1) (ci := 8) (v := .ref gd) (C := RX8) (T := TX8) (N := 10) hx hb hts hinX8 hown hK hP 0 rfl rfl 6 (by decide) (hts (.fieldLink RX8 52 "WornRings" "loads" "[LWornRings$Load;") (by decide +kernel)) (fun _ h9 => h9) rfl dX8_repair_6 ?_
    refine va_alen (v := 4) hx hb hK hP 1 6 rfl rfl rfl dX8_repair_9 ?_
    refine lv_icmp_ge (tgt := 43) hx hb dX8_repair_10 (by decide) (fun c_10 => by exfalso; revert c_10; decide) (fun c_10 => ?_)
    refine lv_aload_n hx hb dX8_repair_13 rfl (lv_at hl 2 rfl) ?_
    refine va_get (D := E.1) (ci := 8) (v := .ref gd) (C := RX8) (T := TX8) (N := 10) hx hb hts hinX8 hown hK hP 0 rfl rfl 6 (by decide) (hts (.fieldLink RX8 52 "WornRings" "loads" "[LWornRings$Load;") (by decide +kernel)) (fun _ h9 => h9) rfl dX8_repair_14 ?_
    refine lv_iload_n hx hb dX8_repair_17 rfl (lv_at hl 0 rfl) ?_
    refine va_aldq hx hb hK hP 1 6 rfl rfl (by unfold vp_in; decide) dX8_repair_18 ?_
    refine W.eq (g2 := F0 m 19 ls [va_rf (fd 1)]) rfl ?_
    rw [hq1]
    refine W.eq (g2 := F0 m 19 ls [.ref q1]) rfl ?_
    refine va_getN (D := E.1) (host := "WornRings") (ref := "WornRings$Load") (ci := 2) (v := .int w1) (C := RX2) (T := TX2) (N := 4) hx hb hts hinX2 hown hK hP 2 rfl rfl 3 (by decide) (va_Nw.use rfl (hNN (.fieldLinkNest RX8 223 "WornRings$Load" "warning" "Z" "WornRings") (by decide +kernel))) (fun _ h9 => h9) rfl dX8_repair_19 ?_
    refine lv_if_eq (tgt := 28) hx hb dX8_repair_22 (by decide) (fun c_22 => ?_) (fun c_22 => ?_)
    · have d1 := c_22
      refine lv_aload_n hx hb dX8_repair_28 rfl (lv_at hl 2 rfl) ?_
      refine va_get (D := E.1) (ci := 8) (v := .ref gd) (C := RX8) (T := TX8) (N := 10) hx hb hts hinX8 hown hK hP 0 rfl rfl 6 (by decide) (hts (.fieldLink RX8 52 "WornRings" "loads" "[LWornRings$Load;") (by decide +kernel)) (fun _ h9 => h9) rfl dX8_repair_29 ?_
      refine lv_iload_n hx hb dX8_repair_32 rfl (lv_at hl 0 rfl) ?_
      refine va_aldq hx hb hK hP 1 6 rfl rfl (by unfold vp_in; decide) dX8_repair_33 ?_
      refine W.eq (g2 := F0 m 34 ls [va_rf (fd 1)]) rfl ?_
      rw [hq1]
      refine W.eq (g2 := F0 m 34 ls [.ref q1]) rfl ?_
      refine wVv (wr := [(g0, .inr (8, [.ref gm, .ref gk, .ref gs, .ref ga, .ref gl, .ref gh, .ref gd, .int wA, .int wB, .int wU])), (gd, .inl (E.2 6, 4, .inr (.inr (.inr (.inr fd))))), (q2, .inr (2, [.ref b2, .int k2, .int m2, .int w2])), (b2, .inl (E.2 1, 200, .inl f2)), (q3, .inr (2, [.ref b3, .int k3, .int m3, .int w3])), (b3, .inl (E.2 1, 200, .inl f3)), (q0, .inr (2, [.ref b0, .int 0, .int m0, .int 0])), (b0, .inl (E.2 1, 200, .inl f0))]) hE ⟨hx, hb, hml, hown, hts⟩ (c_X2_clear l E H.size q1 b1 k1 m1 w1 f1 ) (cwV 0 hts gX8_repair_X2_clear rfl rfl rfl (by decide +kernel) ⟨Nat.le_of_ble_eq_true rfl, Nat.le_of_ble_eq_true rfl⟩) hP hD hS hA [2, 3] [0, 1, 4, 5, 6, 7, 8, 9] rfl rfl (by decide) (by decide) (by decide) 0 2 rfl rfl rfl hl.1 rfl (Nat.le_of_ble_eq_true rfl) dX8_repair_34 ⟨(Nat.zero_le _), (Nat.zero_le _)⟩ (fun u H locs hw hP hD hS => ?_)
      have hP : va_P E.1 vwCl [(g0, .inr (8, [.ref gm, .ref gk, .ref gs, .ref ga, .ref gl, .ref gh, .ref gd, .int wA, .int wB, .int wU])), (gd, .inl (E.2 6, 4, .inr (.inr (.inr (.inr fd))))), (q2, .inr (2, [.ref b2, .int k2, .int m2, .int w2])), (b2, .inl (E.2 1, 200, .inl f2)), (q3, .inr (2, [.ref b3, .int k3, .int m3, .int w3])), (b3, .inl (E.2 1, 200, .inl f3)), (q0, .inr (2, [.ref b0, .int 0, .int m0, .int 0])), (b0, .inl (E.2 1, 200, .inl f0)), (q1, .inr (2, [.ref b1, .int 0, .int m1, .int 0])), (b1, .inl (E.2 1, 200, .inl f1))] H := hP
      have hD : va_D A [(g0, .inr (8, [.ref gm, .ref gk, .ref gs, .ref ga, .ref gl, .ref gh, .ref gd, .int wA, .int wB, .int wU])), (gd, .inl (E.2 6, 4, .inr (.inr (.inr (.inr fd))))), (q2, .inr (2, [.ref b2, .int k2, .int m2, .int w2])), (b2, .inl (E.2 1, 200, .inl f2)), (q3, .inr (2, [.ref b3, .int k3, .int m3, .int w3])), (b3, .inl (E.2 1, 200, .inl f3)), (q0, .inr (2, [.ref b0, .int 0, .int m0, .int 0])), (b0, .inl (E.2 1, 200, .inl f0)), (q1, .inr (2, [.ref b1, .int 0, .int m1, .int 0])), (b1, .inl (E.2 1, 200, .inl f1))] := hD
      refine lv_iinc (v := 2) (lv' := [(2, .int 2), (1, .int 1), (0, .ref g0)]) hx hb dX8_repair_37 hl (k := 0) rfl (by decide) (by decide) rfl (fun ls hl => ?_)
      refine lv_goto (tgt := 4) hx hb dX8_repair_40 (by decide) ?_
      refine lv_iload_n hx hb dX8_repair_4 rfl (lv_at hl 0 rfl) ?_
      refine lv_aload_n hx hb dX8_repair_5 rfl (lv_at hl 2 rfl) ?_
      refine va_get (D := E.1) (ci := 8) (v := .ref gd) (C := RX8) (T := TX8) (N := 10) hx hb hts hinX8 hown hK hP 0 rfl rfl 6 (by decide) (hts (.fieldLink RX8 52 "WornRings" "loads" "[LWornRings$Load;") (by decide +kernel)) (fun _ h9 => h9) rfl dX8_repair_6 ?_
      refine va_alen (v := 4) hx hb hK hP 1 6 rfl rfl rfl dX8_repair_9 ?_
      refine lv_icmp_ge (tgt := 43) hx hb dX8_repair_10 (by decide) (fun c_10 => by exfalso; revert c_10; decide) (fun c_10 => ?_)
      refine lv_aload_n hx hb dX8_repair_13 rfl (lv_at hl 2 rfl) ?_
      refine va_get (D := E.1) (ci := 8) (v := .ref gd) (C := RX8) (T := TX8) (N := 10) hx hb hts hinX8 hown hK hP 0 rfl rfl 6 (by decide) (hts (.fieldLink RX8 52 "WornRings" "loads" "[LWornRings$Load;") (by decide +kernel)) (fun _ h9 => h9) rfl dX8_repair_14 ?_
      refine lv_iload_n hx hb dX8_repair_17 rfl (lv_at hl 0 rfl) ?_
      refine va_aldq hx hb hK hP 1 6 rfl rfl (by unfold vp_in; decide) dX8_repair_18 ?_
      refine W.eq (g2 := F0 m 19 ls [va_rf (fd 2)]) rfl ?_
      rw [hq2]
      refine W.eq (g2 := F0 m 19 ls [.ref q2]) rfl ?_
      refine va_getN (D := E.1) (host := "WornRings") (ref := "WornRings$Load") (ci := 2) (v := .int w2) (C := RX2) (T := TX2) (N := 4) hx hb hts hinX2 hown hK hP 2 rfl rfl 3 (by decide) (va_Nw.use rfl (hNN (.fieldLinkNest RX8 223 "WornRings$Load" "warning" "Z" "WornRings") (by decide +kernel))) (fun _ h9 => h9) rfl dX8_repair_19 ?_
      refine lv_if_eq (tgt := 28) hx hb dX8_repair_22 (by decide) (fun c_22 => ?_) (fun c_22 => ?_)
      · have d2 := c_22
        refine lv_aload_n hx hb dX8_repair_28 rfl (lv_at hl 2 rfl) ?_
        refine va_get (D := E.1) (ci := 8) (v := .ref gd) (C := RX8) (T := TX8) (N := 10) hx hb hts hinX8 hown hK hP 0 rfl rfl 6 (by decide) (hts (.fieldLink RX8 52 "WornRings" "loads" "[LWornRings$Load;") (by decide +kernel)) (fun _ h9 => h9) rfl dX8_repair_29 ?_
        refine lv_iload_n hx hb dX8_repair_32 rfl (lv_at hl 0 rfl) ?_
        refine va_aldq hx hb hK hP 1 6 rfl rfl (by unfold vp_in; decide) dX8_repair_33 ?_
        refine W.eq (g2 := F0 m 34 ls [va_rf (fd 2)]) rfl ?_
        rw [hq2]
        refine W.eq (g2 := F0 m 34 ls [.ref q2]) rfl ?_
        refine wVv (wr := [(g0, .inr (8, [.ref gm, .ref gk, .ref gs, .ref ga, .ref gl, .ref gh, .ref gd, .int wA, .int wB, .int wU])), (gd, .inl (E.2 6, 4, .inr (.inr (.inr (.inr fd))))), (q3, .inr (2, [.ref b3, .int k3, .int m3, .int w3])), (b3, .inl (E.2 1, 200, .inl f3)), (q0, .inr (2, [.ref b0, .int 0, .int m0, .int 0])), (b0, .inl (E.2 1, 200, .inl f0)), (q1, .inr (2, [.ref b1, .int 0, .int m1, .int 0])), (b1, .inl (E.2 1, 200, .inl f1))]) hE ⟨hx, hb, hml, hown, hts⟩ (c_X2_clear l E H.size q2 b2 k2 m2 w2 f2 ) (cwV 0 hts gX8_repair_X2_clear rfl rfl rfl (by decide +kernel) ⟨Nat.le_of_ble_eq_true rfl, Nat.le_of_ble_eq_true rfl⟩) hP hD hS hA [2, 3] [0, 1, 4, 5, 6, 7, 8, 9] rfl rfl (by decide) (by decide) (by decide) 0 2 rfl rfl rfl hl.1 rfl (Nat.le_of_ble_eq_true rfl) dX8_repair_34 ⟨(Nat.zero_le _), (Nat.zero_le _)⟩ (fun u H locs hw hP hD hS => ?_)
        have hP : va_P E.1 vwCl [(g0, .inr (8, [.ref gm, .ref gk, .ref gs, .ref ga, .ref gl, .ref gh, .ref gd, .int wA, .int wB, .int wU])), (gd, .inl (E.2 6, 4, .inr (.inr (.inr (.inr fd))))), (q3, .inr (2, [.ref b3, .int k3, .int m3, .int w3])), (b3, .inl (E.2 1, 200, .inl f3)), (q0, .inr (2, [.ref b0, .int 0, .int m0, .int 0])), (b0, .inl (E.2 1, 200, .inl f0)), (q1, .inr (2, [.ref b1, .int 0, .int m1, .int 0])), (b1, .inl (E.2 1, 200, .inl f1)), (q2, .inr (2, [.ref b2, .int 0, .int m2, .int 0])), (b2, .inl (E.2 1, 200, .inl f2))] H := hP
        have hD : va_D A [(g0, .inr (8, [.ref gm, .ref gk, .ref gs, .ref ga, .ref gl, .ref gh, .ref gd, .int wA, .int wB, .int wU])), (gd, .inl (E.2 6, 4, .inr (.inr (.inr (.inr fd))))), (q3, .inr (2, [.ref b3, .int k3, .int m3, .int w3])), (b3, .inl (E.2 1, 200, .inl f3)), (q0, .inr (2, [.ref b0, .int 0, .int m0, .int 0])), (b0, .inl (E.2 1, 200, .inl f0)), (q1, .inr (2, [.ref b1, .int 0, .int m1, .int 0])), (b1, .inl (E.2 1, 200, .inl f1)), (q2, .inr (2, [.ref b2, .int 0, .int m2, .int 0])), (b2, .inl (E.2 1, 200, .inl f2))] := hD
        refine lv_iinc (v := 3) (lv' := [(2, .int 3), (1, .int 1), (0, .ref g0)]) hx hb dX8_repair_37 hl (k := 0) rfl (by decide) (by decide) rfl (fun ls hl => ?_)
        refine lv_goto (tgt := 4) hx hb dX8_repair_40 (by decide) ?_
        refine lv_iload_n hx hb dX8_repair_4 rfl (lv_at hl 0 rfl) ?_
        refine lv_aload_n hx hb dX8_repair_5 rfl (lv_at hl 2 rfl) ?_
        refine va_get (D := E.1) (ci := 8) (v := .ref gd) (C := RX8) (T := TX8) (N := 10) hx hb hts hinX8 hown hK hP 0 rfl rfl 6 (by decide) (hts (.fieldLink RX8 52 "WornRings" "loads" "[LWornRings$Load;") (by decide +kernel)) (fun _ h9 => h9) rfl dX8_repair_6 ?_
        refine va_alen (v := 4) hx hb hK hP 1 6 rfl rfl rfl dX8_repair_9 ?_
        refine lv_icmp_ge (tgt := 43) hx hb dX8_repair_10 (by decide) (fun c_10 => by exfalso; revert c_10; decide) (fun c_10 => ?_)
        refine lv_aload_n hx hb dX8_repair_13 rfl (lv_at hl 2 rfl) ?_
        refine va_get (D := E.1) (ci := 8) (v := .ref gd) (C := RX8) (T := TX8) (N := 10) hx hb hts hinX8 hown hK hP 0 rfl rfl 6 (by decide) (hts (.fieldLink RX8 52 "WornRings" "loads" "[LWornRings$Load;") (by decide +kernel)) (fun _ h9 => h9) rfl dX8_repair_14 ?_
        refine lv_iload_n hx hb dX8_repair_17 rfl (lv_at hl 0 rfl) ?_
        refine va_aldq hx hb hK hP 1 6 rfl rfl (by unfold vp_in; decide) dX8_repair_18 ?_
        refine W.eq (g2 := F0 m 19 ls [va_rf (fd 3)]) rfl ?_
        rw [hq3]
        refine W.eq (g2 := F0 m 19 ls [.ref q3]) rfl ?_
        refine va_getN (D := E.1) (host := "WornRings") (ref := "WornRings$Load") (ci := 2) (v := .int w3) (C := RX2) (T := TX2) (N := 4) hx hb hts hinX2 hown hK hP 2 rfl rfl 3 (by decide) (va_Nw.use rfl (hNN (.fieldLinkNest RX8 223 "WornRings$Load" "warning" "Z" "WornRings") (by decide +kernel))) (fun _ h9 => h9) rfl dX8_repair_19 ?_
        refine lv_if_eq (tgt := 28) hx hb dX8_repair_22 (by decide) (fun c_22 => ?_) (fun c_22 => ?_)
        · have d3 := c_22
          refine lv_aload_n hx hb dX8_repair_28 rfl (lv_at hl 2 rfl) ?_
          refine va_get (D := E.1) (ci := 8) (v := .ref gd) (C := RX8) (T := TX8) (N := 10) hx hb hts hinX8 hown hK hP 0 rfl rfl 6 (by decide) (hts (.fieldLink RX8 52 "WornRings" "loads" "[LWornRings$Load;") (by decide +kernel)) (fun _ h9 => h9) rfl dX8_repair_29 ?_
          refine lv_iload_n hx hb dX8_repair_32 rfl (lv_at hl 0 rfl) ?_
          refine va_aldq hx hb hK hP 1 6 rfl rfl (by unfold vp_in; decide) dX8_repair_33 ?_
          refine W.eq (g2 := F0 m 34 ls [va_rf (fd 3)]) rfl ?_
          rw [hq3]
          refine W.eq (g2 := F0 m 34 ls [.ref q3]) rfl ?_
          refine wVv (wr := [(g0, .inr (8, [.ref gm, .ref gk, .ref gs, .ref ga, .ref gl, .ref gh, .ref gd, .int wA, .int wB, .int wU])), (gd, .inl (E.2 6, 4, .inr (.inr (.inr (.inr fd))))), (q0, .inr (2, [.ref b0, .int 0, .int m0, .int 0])), (b0, .inl (E.2 1, 200, .inl f0)), (q1, .inr (2, [.ref b1, .int 0, .int m1, .int 0])), (b1, .inl (E.2 1, 200, .inl f1)), (q2, .inr (2, [.ref b2, .int 0, .int m2, .int 0])), (b2, .inl (E.2 1, 200, .inl f2))]) hE ⟨hx, hb, hml, hown, hts⟩ (c_X2_clear l E H.size q3 b3 k3 m3 w3 f3 ) (cwV 0 hts gX8_repair_X2_clear rfl rfl rfl (by decide +kernel) ⟨Nat.le_of_ble_eq_true rfl, Nat.le_of_ble_eq_true rfl⟩) hP hD hS hA [2, 3] [0, 1, 4, 5, 6, 7, 8, 9] rfl rfl (by decide) (by decide) (by decide) 0 2 rfl rfl rfl hl.1 rfl (Nat.le_of_ble_eq_true rfl) dX8_repair_34 ⟨(Nat.zero_le _), (Nat.zero_le _)⟩ (fun u H locs hw hP hD hS => ?_)
          have hP : va_P E.1 vwCl [(g0, .inr (8, [.ref gm, .ref gk, .ref gs, .ref ga, .ref gl, .ref gh, .ref gd, .int wA, .int wB, .int wU])), (gd, .inl (E.2 6, 4, .inr (.inr (.inr (.inr fd))))), (q0, .inr (2, [.ref b0, .int 0, .int m0, .int 0])), (b0, .inl (E.2 1, 200, .inl f0)), (q1, .inr (2, [.ref b1, .int 0, .int m1, .int 0])), (b1, .inl (E.2 1, 200, .inl f1)), (q2, .inr (2, [.ref b2, .int 0, .int m2, .int 0])), (b2, .inl (E.2 1, 200, .inl f2)), (q3, .inr (2, [.ref b3, .int 0, .int m3, .int 0])), (b3, .inl (E.2 1, 200, .inl f3))] H := hP
          have hD : va_D A [(g0, .inr (8, [.ref gm, .ref gk, .ref gs, .ref ga, .ref gl, .ref gh, .ref gd, .int wA, .int wB, .int wU])), (gd, .inl (E.2 6, 4, .inr (.inr (.inr (.inr fd))))), (q0, .inr (2, [.ref b0, .int 0, .int m0, .int 0])), (b0, .inl (E.2 1, 200, .inl f0)), (q1, .inr (2, [.ref b1, .int 0, .int m1, .int 0])), (b1, .inl (E.2 1, 200, .inl f1)), (q2, .inr (2, [.ref b2, .int 0, .int m2, .int 0])), (b2, .inl (E.2 1, 200, .inl f2)), (q3, .inr (2, [.ref b3, .int 0, .int m3, .int 0])), (b3, .inl (E.2 1, 200, .inl f3))] := hD
          refine lv_iinc (v := 4) (lv' := [(2, .int 4), (1, .int 1), (0, .ref g0)]) hx hb dX8_repair_37 hl (k := 0) rfl (by decide) (by decide) rfl (fun ls hl => ?_)
          refine lv_goto (tgt := 4) hx hb dX8_repair_40 (by decide) ?_
          refine lv_iload_n hx hb dX8_repair_4 rfl (lv_at hl 0 rfl) ?_
          refine lv_aload_n hx hb dX8_repair_5 rfl (lv_at hl 2 rfl) ?_
          refine va_get (D := E.1) (ci := 8) (v := .ref gd) (C := RX8) (T := TX8) (N := 10) hx hb hts hinX8 hown hK hP 0 rfl rfl 6 (by decide) (hts (.fieldLink RX8 52 "WornRings" "loads" "[LWornRings$Load;") (by decide +kernel)) (fun _ h9 => h9) rfl dX8_repair_6 ?_
          refine va_alen (v := 4) hx hb hK hP 1 6 rfl rfl rfl dX8_repair_9 ?_
          refine lv_icmp_ge (tgt := 43) hx hb dX8_repair_10 (by decide) (fun c_10 => ?_) (fun c_10 => by exfalso; revert c_10; decide)
          refine lv_iload_n hx hb dX8_repair_43 rfl (lv_at hl 1 rfl) ?_
          have hP9 : va_P E.1 vwCl [(g0, .inr (8, [.ref gm, .ref gk, .ref gs, .ref ga, .ref gl, .ref gh, .ref gd, .int wA, .int wB, .int wU])), (gd, .inl (E.2 6, 4, .inr (.inr (.inr (.inr fd))))), (q0, .inr (2, [.ref b0, .int 0, .int m0, .int 0])), (b0, .inl (E.2 1, 200, .inl f0)), (q1, .inr (2, [.ref b1, .int 0, .int m1, .int 0])), (b1, .inl (E.2 1, 200, .inl f1)), (q2, .inr (2, [.ref b2, .int 0, .int m2, .int 0])), (b2, .inl (E.2 1, 200, .inl f2)), (q3, .inr (2, [.ref b3, .int 0, .int m3, .int 0])), (b3, .inl (E.2 1, 200, .inl f3))] H := hP.sub [0, 1, 2, 3, 4, 5, 6, 7, 8, 9] rfl
          have hD9 : va_D A [(g0, .inr (8, [.ref gm, .ref gk, .ref gs, .ref ga, .ref gl, .ref gh, .ref gd, .int wA, .int wB, .int wU])), (gd, .inl (E.2 6, 4, .inr (.inr (.inr (.inr fd))))), (q0, .inr (2, [.ref b0, .int 0, .int m0, .int 0])), (b0, .inl (E.2 1, 200, .inl f0)), (q1, .inr (2, [.ref b1, .int 0, .int m1, .int 0])), (b1, .inl (E.2 1, 200, .inl f1)), (q2, .inr (2, [.ref b2, .int 0, .int m2, .int 0])), (b2, .inl (E.2 1, 200, .inl f2)), (q3, .inr (2, [.ref b3, .int 0, .int m3, .int 0])), (b3, .inl (E.2 1, 200, .inl f3))] := hD.sub [0, 1, 2, 3, 4, 5, 6, 7, 8, 9] (by decide) rfl
          exact W.iret (v := 1) hx hb hr (fun t9 ht9 hW9 => ⟨⟨1, (), rfl, by simp only [bzN, bz, d0, d1, d2, d3, if_true, if_false]; try rfl, ⟨by rw [ht9]; exact hP9, hD9⟩⟩, hS.F ht9⟩) hS.2.2 dX8_repair_44
        · refine lv_iinc (v := 2) (lv' := [(1, .int 2), (2, .int 3), (0, .ref g0)]) hx hb dX8_repair_25 hl (k := 1) rfl (by decide) (by decide) rfl (fun ls hl => ?_)
          have d3 := c_22
          refine lv_aload_n hx hb dX8_repair_28 rfl (lv_at hl 2 rfl) ?_
          refine va_get (D := E.1) (ci := 8) (v := .ref gd) (C := RX8) (T := TX8) (N := 10) hx hb hts hinX8 hown hK hP 0 rfl rfl 6 (by decide) (hts (.fieldLink RX8 52 "WornRings" "loads" "[LWornRings$Load;") (by decide +kernel)) (fun _ h9 => h9) rfl dX8_repair_29 ?_
          refine lv_iload_n hx hb dX8_repair_32 rfl (lv_at hl 1 rfl) ?_
          refine va_aldq hx hb hK hP 1 6 rfl rfl (by unfold vp_in; decide) dX8_repair_33 ?_
          refine W.eq (g2 := F0 m 34 ls [va_rf (fd 3)]) rfl ?_
          rw [hq3]
          refine W.eq (g2 := F0 m 34 ls [.ref q3]) rfl ?_
          refine wVv (wr := [(g0, .inr (8, [.ref gm, .ref gk, .ref gs, .ref ga, .ref gl, .ref gh, .ref gd, .int wA, .int wB, .int wU])), (gd, .inl (E.2 6, 4, .inr (.inr (.inr (.inr fd))))), (q0, .inr (2, [.ref b0, .int 0, .int m0, .int 0])), (b0, .inl (E.2 1, 200, .inl f0)), (q1, .inr (2, [.ref b1, .int 0, .int m1, .int 0])), (b1, .inl (E.2 1, 200, .inl f1)), (q2, .inr (2, [.ref b2, .int 0, .int m2, .int 0])), (b2, .inl (E.2 1, 200, .inl f2))]) hE ⟨hx, hb, hml, hown, hts⟩ (c_X2_clear l E H.size q3 b3 k3 m3 w3 f3 ) (cwV 0 hts gX8_repair_X2_clear rfl rfl rfl (by decide +kernel) ⟨Nat.le_of_ble_eq_true rfl, Nat.le_of_ble_eq_true rfl⟩) hP hD hS hA [2, 3] [0, 1, 4, 5, 6, 7, 8, 9] rfl rfl (by decide) (by decide) (by decide) 0 2 rfl rfl rfl hl.1 rfl (Nat.le_of_ble_eq_true rfl) dX8_repair_34 ⟨(Nat.zero_le _), (Nat.zero_le _)⟩ (fun u H locs hw hP hD hS => ?_)
          have hP : va_P E.1 vwCl [(g0, .inr (8, [.ref gm, .ref gk, .ref gs, .ref ga, .ref gl, .ref gh, .ref gd, .int wA, .int wB, .int wU])), (gd, .inl (E.2 6, 4, .inr (.inr (.inr (.inr fd))))), (q0, .inr (2, [.ref b0, .int 0, .int m0, .int 0])), (b0, .inl (E.2 1, 200, .inl f0)), (q1, .inr (2, [.ref b1, .int 0, .int m1, .int 0])), (b1, .inl (E.2 1, 200, .inl f1)), (q2, .inr (2, [.ref b2, .int 0, .int m2, .int 0])), (b2, .inl (E.2 1, 200, .inl f2)), (q3, .inr (2, [.ref b3, .int 0, .int m3, .int 0])), (b3, .inl (E.2 1, 200, .inl f3))] H := hP
          have hD : va_D A [(g0, .inr (8, [.ref gm, .ref gk, .ref gs, .ref ga, .ref gl, .ref gh, .ref gd, .int wA, .int wB, .int wU])), (gd, .inl (E.2 6, 4, .inr (.inr (.inr (.inr fd))))), (q0, .inr (2, [.ref b0, .int 0, .int m0, .int 0])), (b0, .inl (E.2 1, 200, .inl f0)), (q1, .inr (2, [.ref b1, .int 0, .int m1, .int 0])), (b1, .inl (E.2 1, 200, .inl f1)), (q2, .inr (2, [.ref b2, .int 0, .int m2, .int 0])), (b2, .inl (E.2 1, 200, .inl f2)), (q3, .inr (2, [.ref b3, .int 0, .int m3, .int 0])), (b3, .inl (E.2 1, 200, .inl f3))] := hD
          refine lv_iinc (v := 4) (lv' := [(2, .int 4), (1, .int 2), (0, .ref g0)]) hx hb dX8_repair_37 hl (k := 1) rfl (by decide) (by decide) rfl (fun ls hl => ?_)
          refine lv_goto (tgt := 4) hx hb dX8_repair_40 (by decide) ?_
          refine lv_iload_n hx hb dX8_repair_4 rfl (lv_at hl 0 rfl) ?_
          refine lv_aload_n hx hb dX8_repair_5 rfl (lv_at hl 2 rfl) ?_
          refine va_get (D := E.1) (ci := 8) (v := .ref gd) (C := RX8) (T := TX8) (N := 10) hx hb hts hinX8 hown hK hP 0 rfl rfl 6 (by decide) (hts (.fieldLink RX8 52 "WornRings" "loads" "[LWornRings$Load;") (by decide +kernel)) (fun _ h9 => h9) rfl dX8_repair_6 ?_
          refine va_alen (v := 4) hx hb hK hP 1 6 rfl rfl rfl dX8_repair_9 ?_
          refine lv_icmp_ge (tgt := 43) hx hb dX8_repair_10 (by decide) (fun c_10 => ?_) (fun c_10 => by exfalso; revert c_10; decide)
          refine lv_iload_n hx hb dX8_repair_43 rfl (lv_at hl 1 rfl) ?_
          have hP9 : va_P E.1 vwCl [(g0, .inr (8, [.ref gm, .ref gk, .ref gs, .ref ga, .ref gl, .ref gh, .ref gd, .int wA, .int wB, .int wU])), (gd, .inl (E.2 6, 4, .inr (.inr (.inr (.inr fd))))), (q0, .inr (2, [.ref b0, .int 0, .int m0, .int 0])), (b0, .inl (E.2 1, 200, .inl f0)), (q1, .inr (2, [.ref b1, .int 0, .int m1, .int 0])), (b1, .inl (E.2 1, 200, .inl f1)), (q2, .inr (2, [.ref b2, .int 0, .int m2, .int 0])), (b2, .inl (E.2 1, 200, .inl f2)), (q3, .inr (2, [.ref b3, .int 0, .int m3, .int 0])), (b3, .inl (E.2 1, 200, .inl f3))] H := hP.sub [0, 1, 2, 3, 4, 5, 6, 7, 8, 9] rfl
          have hD9 : va_D A [(g0, .inr (8, [.ref gm, .ref gk, .ref gs, .ref ga, .ref gl, .ref gh, .ref gd, .int wA, .int wB, .int wU])), (gd, .inl (E.2 6, 4, .inr (.inr (.inr (.inr fd))))), (q0, .inr (2, [.ref b0, .int 0, .int m0, .int 0])), (b0, .inl (E.2 1, 200, .inl f0)), (q1, .inr (2, [.ref b1, .int 0, .int m1, .int 0])), (b1, .inl (E.2 1, 200, .inl f1)), (q2, .inr (2, [.ref b2, .int 0, .int m2, .int 0])), (b2, .inl (E.2 1, 200, .inl f2)), (q3, .inr (2, [.ref b3, .int 0, .int m3, .int 0])), (b3, .inl (E.2 1, 200, .inl f3))] := hD.sub [0, 1, 2, 3, 4, 5, 6, 7, 8, 9] (by decide) rfl
          exact W.iret (v := 2) hx hb hr (fun t9 ht9 hW9 => ⟨⟨2, (), rfl, by simp only [bzN, bz, d0, d1, d2, d3, if_true, if_false]; try rfl, ⟨by rw [ht9]; exact hP9, hD9⟩⟩, hS.F ht9⟩) hS.2.2 dX8_repair_44
      · refine lv_iinc (v := 2) (lv' := [(1, .int 2), (2, .int 2), (0, .ref g0)]) hx hb dX8_repair_25 hl (k := 1) rfl (by decide) (by decide) rfl (fun ls hl => ?_)
        have d2 := c_22
        refine lv_aload_n hx hb dX8_repair_28 rfl (lv_at hl 2 rfl) ?_
        refine va_get (D := E.1) (ci := 8) (v := .ref gd) (C := RX8) (T := TX8) (N := 10) hx hb hts hinX8 hown hK hP 0 rfl rfl 6 (by decide) (hts (.fieldLink RX8 52 "WornRings" "loads" "[LWornRings$Load;") (by decide +kernel)) (fun _ h9 => h9) rfl dX8_repair_29 ?_
        refine lv_iload_n hx hb dX8_repair_32 rfl (lv_at hl 1 rfl) ?_
        refine va_aldq hx hb hK hP 1 6 rfl rfl (by unfold vp_in; decide) dX8_repair_33 ?_
        refine W.eq (g2 := F0 m 34 ls [va_rf (fd 2)]) rfl ?_
        rw [hq2]
        refine W.eq (g2 := F0 m 34 ls [.ref q2]) rfl ?_
        refine wVv (wr := [(g0, .inr (8, [.ref gm, .ref gk, .ref gs, .ref ga, .ref gl, .ref gh, .ref gd, .int wA, .int wB, .int wU])), (gd, .inl (E.2 6, 4, .inr (.inr (.inr (.inr fd))))), (q3, .inr (2, [.ref b3, .int k3, .int m3, .int w3])), (b3, .inl (E.2 1, 200, .inl f3)), (q0, .inr (2, [.ref b0, .int 0, .int m0, .int 0])), (b0, .inl (E.2 1, 200, .inl f0)), (q1, .inr (2, [.ref b1, .int 0, .int m1, .int 0])), (b1, .inl (E.2 1, 200, .inl f1))]) hE ⟨hx, hb, hml, hown, hts⟩ (c_X2_clear l E H.size q2 b2 k2 m2 w2 f2 ) (cwV 0 hts gX8_repair_X2_clear rfl rfl rfl (by decide +kernel) ⟨Nat.le_of_ble_eq_true rfl, Nat.le_of_ble_eq_true rfl⟩) hP hD hS hA [2, 3] [0, 1, 4, 5, 6, 7, 8, 9] rfl rfl (by decide) (by decide) (by decide) 0 2 rfl rfl rfl hl.1 rfl (Nat.le_of_ble_eq_true rfl) dX8_repair_34 ⟨(Nat.zero_le _), (Nat.zero_le _)⟩ (fun u H locs hw hP hD hS => ?_)
        have hP : va_P E.1 vwCl [(g0, .inr (8, [.ref gm, .ref gk, .ref gs, .ref ga, .ref gl, .ref gh, .ref gd, .int wA, .int wB, .int wU])), (gd, .inl (E.2 6, 4, .inr (.inr (.inr (.inr fd))))), (q3, .inr (2, [.ref b3, .int k3, .int m3, .int w3])), (b3, .inl (E.2 1, 200, .inl f3)), (q0, .inr (2, [.ref b0, .int 0, .int m0, .int 0])), (b0, .inl (E.2 1, 200, .inl f0)), (q1, .inr (2, [.ref b1, .int 0, .int m1, .int 0])), (b1, .inl (E.2 1, 200, .inl f1)), (q2, .inr (2, [.ref b2, .int 0, .int m2, .int 0])), (b2, .inl (E.2 1, 200, .inl f2))] H := hP
        have hD : va_D A [(g0, .inr (8, [.ref gm, .ref gk, .ref gs, .ref ga, .ref gl, .ref gh, .ref gd, .int wA, .int wB, .int wU])), (gd, .inl (E.2 6, 4, .inr (.inr (.inr (.inr fd))))), (q3, .inr (2, [.ref b3, .int k3, .int m3, .int w3])), (b3, .inl (E.2 1, 200, .inl f3)), (q0, .inr (2, [.ref b0, .int 0, .int m0, .int 0])), (b0, .inl (E.2 1, 200, .inl f0)), (q1, .inr (2, [.ref b1, .int 0, .int m1, .int 0])), (b1, .inl (E.2 1, 200, .inl f1)), (q2, .inr (2, [.ref b2, .int 0, .int m2, .int 0])), (b2, .inl (E.2 1, 200, .inl f2))] := hD
        refine lv_iinc (v := 3) (lv' := [(2, .int 3), (1, .int 2), (0, .ref g0)]) hx hb dX8_repair_37 hl (k := 1) rfl (by decide) (by decide) rfl (fun ls hl => ?_)
        refine lv_goto (tgt := 4) hx hb dX8_repair_40 (by decide) ?_
        refine lv_iload_n hx hb dX8_repair_4 rfl (lv_at hl 0 rfl) ?_
        refine lv_aload_n hx hb dX8_repair_5 rfl (lv_at hl 2 rfl) ?_
        refine va_get (D := E.1) (ci := 8) (v := .ref gd) (C := RX8) (T := TX8) (N := 10) hx hb hts hinX8 hown hK hP 0 rfl rfl 6 (by decide) (hts (.fieldLink RX8 52 "WornRings" "loads" "[LWornRings$Load;") (by decide +kernel)) (fun _ h9 => h9) rfl dX8_repair_6 ?_
        refine va_alen (v := 4) hx hb hK hP 1 6 rfl rfl rfl dX8_repair_9 ?_
        refine lv_icmp_ge (tgt := 43) hx hb dX8_repair_10 (by decide) (fun c_10 => by exfalso; revert c_10; decide) (fun c_10 => ?_)
        refine lv_aload_n hx hb dX8_repair_13 rfl (lv_at hl 2 rfl) ?_
        refine va_get (D := E.1) (ci := 8) (v := .ref gd) (C := RX8) (T := TX8) (N := 10) hx hb hts hinX8 hown hK hP 0 rfl rfl 6 (by decide) (hts (.fieldLink RX8 52 "WornRings" "loads" "[LWornRings$Load;") (by decide +kernel)) (fun _ h9 => h9) rfl dX8_repair_14 ?_
        refine lv_iload_n hx hb dX8_repair_17 rfl (lv_at hl 0 rfl) ?_
        refine va_aldq hx hb hK hP 1 6 rfl rfl (by unfold vp_in; decide) dX8_repair_18 ?_
        refine W.eq (g2 := F0 m 19 ls [va_rf (fd 3)]) rfl ?_
        rw [hq3]
        refine W.eq (g2 := F0 m 19 ls [.ref q3]) rfl ?_
        refine va_getN (D := E.1) (host := "WornRings") (ref := "WornRings$Load") (ci := 2) (v := .int w3) (C := RX2) (T := TX2) (N := 4) hx hb hts hinX2 hown hK hP 2 rfl rfl 3 (by decide) (va_Nw.use rfl (hNN (.fieldLinkNest RX8 223 "WornRings$Load" "warning" "Z" "WornRings") (by decide +kernel))) (fun _ h9 => h9) rfl dX8_repair_19 ?_
        refine lv_if_eq (tgt := 28) hx hb dX8_repair_22 (by decide) (fun c_22 => ?_) (fun c_22 => ?_)
        · have d3 := c_22
          refine lv_aload_n hx hb dX8_repair_28 rfl (lv_at hl 2 rfl) ?_
          refine va_get (D := E.1) (ci := 8) (v := .ref gd) (C := RX8) (T := TX8) (N := 10) hx hb hts hinX8 hown hK hP 0 rfl rfl 6 (by decide) (hts (.fieldLink RX8 52 "WornRings" "loads" "[LWornRings$Load;") (by decide +kernel)) (fun _ h9 => h9) rfl dX8_repair_29 ?_
          refine lv_iload_n hx hb dX8_repair_32 rfl (lv_at hl 0 rfl) ?_
          refine va_aldq hx hb hK hP 1 6 rfl rfl (by unfold vp_in; decide) dX8_repair_33 ?_
          refine W.eq (g2 := F0 m 34 ls [va_rf (fd 3)]) rfl ?_
          rw [hq3]
          refine W.eq (g2 := F0 m 34 ls [.ref q3]) rfl ?_
          refine wVv (wr := [(g0, .inr (8, [.ref gm, .ref gk, .ref gs, .ref ga, .ref gl, .ref gh, .ref gd, .int wA, .int wB, .int wU])), (gd, .inl (E.2 6, 4, .inr (.inr (.inr (.inr fd))))), (q0, .inr (2, [.ref b0, .int 0, .int m0, .int 0])), (b0, .inl (E.2 1, 200, .inl f0)), (q1, .inr (2, [.ref b1, .int 0, .int m1, .int 0])), (b1, .inl (E.2 1, 200, .inl f1)), (q2, .inr (2, [.ref b2, .int 0, .int m2, .int 0])), (b2, .inl (E.2 1, 200, .inl f2))]) hE ⟨hx, hb, hml, hown, hts⟩ (c_X2_clear l E H.size q3 b3 k3 m3 w3 f3 ) (cwV 0 hts gX8_repair_X2_clear rfl rfl rfl (by decide +kernel) ⟨Nat.le_of_ble_eq_true rfl, Nat.le_of_ble_eq_true rfl⟩) hP hD hS hA [2, 3] [0, 1, 4, 5, 6, 7, 8, 9] rfl rfl (by decide) (by decide) (by decide) 0 2 rfl rfl rfl hl.1 rfl (Nat.le_of_ble_eq_true rfl) dX8_repair_34 ⟨(Nat.zero_le _), (Nat.zero_le _)⟩ (fun u H locs hw hP hD hS => ?_)
          have hP : va_P E.1 vwCl [(g0, .inr (8, [.ref gm, .ref gk, .ref gs, .ref ga, .ref gl, .ref gh, .ref gd, .int wA, .int wB, .int wU])), (gd, .inl (E.2 6, 4, .inr (.inr (.inr (.inr fd))))), (q0, .inr (2, [.ref b0, .int 0, .int m0, .int 0])), (b0, .inl (E.2 1, 200, .inl f0)), (q1, .inr (2, [.ref b1, .int 0, .int m1, .int 0])), (b1, .inl (E.2 1, 200, .inl f1)), (q2, .inr (2, [.ref b2, .int 0, .int m2, .int 0])), (b2, .inl (E.2 1, 200, .inl f2)), (q3, .inr (2, [.ref b3, .int 0, .int m3, .int 0])), (b3, .inl (E.2 1, 200, .inl f3))] H := hP
          have hD : va_D A [(g0, .inr (8, [.ref gm, .ref gk, .ref gs, .ref ga, .ref gl, .ref gh, .ref gd, .int wA, .int wB, .int wU])), (gd, .inl (E.2 6, 4, .inr (.inr (.inr (.inr fd))))), (q0, .inr (2, [.ref b0, .int 0, .int m0, .int 0])), (b0, .inl (E.2 1, 200, .inl f0)), (q1, .inr (2, [.ref b1, .int 0, .int m1, .int 0])), (b1, .inl (E.2 1, 200, .inl f1)), (q2, .inr (2, [.ref b2, .int 0, .int m2, .int 0])), (b2, .inl (E.2 1, 200, .inl f2)), (q3, .inr (2, [.ref b3, .int 0, .int m3, .int 0])), (b3, .inl (E.2 1, 200, .inl f3))] := hD
          refine lv_iinc (v := 4) (lv' := [(2, .int 4), (1, .int 2), (0, .ref g0)]) hx hb dX8_repair_37 hl (k := 0) rfl (by decide) (by decide) rfl (fun ls hl => ?_)
          refine lv_goto (tgt := 4) hx hb dX8_repair_40 (by decide) ?_
          refine lv_iload_n hx hb dX8_repair_4 rfl (lv_at hl 0 rfl) ?_
          refine lv_aload_n hx hb dX8_repair_5 rfl (lv_at hl 2 rfl) ?_
          refine va_get (D := E.1) (ci := 8) (v := .ref gd) (C := RX8) (T := TX8) (N := 10) hx hb hts hinX8 hown hK hP 0 rfl rfl 6 (by decide) (hts (.fieldLink RX8 52 "WornRings" "loads" "[LWornRings$Load;") (by decide +kernel)) (fun _ h9 => h9) rfl dX8_repair_6 ?_
          refine va_alen (v := 4) hx hb hK hP 1 6 rfl rfl rfl dX8_repair_9 ?_
          refine lv_icmp_ge (tgt := 43) hx hb dX8_repair_10 (by decide) (fun c_10 => ?_) (fun c_10 => by exfalso; revert c_10; decide)
          refine lv_iload_n hx hb dX8_repair_43 rfl (lv_at hl 1 rfl) ?_
          have hP9 : va_P E.1 vwCl [(g0, .inr (8, [.ref gm, .ref gk, .ref gs, .ref ga, .ref gl, .ref gh, .ref gd, .int wA, .int wB, .int wU])), (gd, .inl (E.2 6, 4, .inr (.inr (.inr (.inr fd))))), (q0, .inr (2, [.ref b0, .int 0, .int m0, .int 0])), (b0, .inl (E.2 1, 200, .inl f0)), (q1, .inr (2, [.ref b1, .int 0, .int m1, .int 0])), (b1, .inl (E.2 1, 200, .inl f1)), (q2, .inr (2, [.ref b2, .int 0, .int m2, .int 0])), (b2, .inl (E.2 1, 200, .inl f2)), (q3, .inr (2, [.ref b3, .int 0, .int m3, .int 0])), (b3, .inl (E.2 1, 200, .inl f3))] H := hP.sub [0, 1, 2, 3, 4, 5, 6, 7, 8, 9] rfl
          have hD9 : va_D A [(g0, .inr (8, [.ref gm, .ref gk, .ref gs, .ref ga, .ref gl, .ref gh, .ref gd, .int wA, .int wB, .int wU])), (gd, .inl (E.2 6, 4, .inr (.inr (.inr (.inr fd))))), (q0, .inr (2, [.ref b0, .int 0, .int m0, .int 0])), (b0, .inl (E.2 1, 200, .inl f0)), (q1, .inr (2, [.ref b1, .int 0, .int m1, .int 0])), (b1, .inl (E.2 1, 200, .inl f1)), (q2, .inr (2, [.ref b2, .int 0, .int m2, .int 0])), (b2, .inl (E.2 1, 200, .inl f2)), (q3, .inr (2, [.ref b3, .int 0, .int m3, .int 0])), (b3, .inl (E.2 1, 200, .inl f3))] := hD.sub [0, 1, 2, 3, 4, 5, 6, 7, 8, 9] (by decide) rfl
          exact W.iret (v := 2) hx hb hr (fun t9 ht9 hW9 => ⟨⟨2, (), rfl, by simp only [bzN, bz, d0, d1, d2, d3, if_true, if_false]; try rfl, ⟨by rw [ht9]; exact hP9, hD9⟩⟩, hS.F ht9⟩) hS.2.2 dX8_repair_44
        · refine lv_iinc (v := 3) (lv' := [(1, .int 3), (2, .int 3), (0, .ref g0)]) hx hb dX8_repair_25 hl (k := 1) rfl (by decide) (by decide) rfl (fun ls hl => ?_)
          have d3 := c_22
          refine lv_aload_n hx hb dX8_repair_28 rfl (lv_at hl 2 rfl) ?_
          refine va_get (D := E.1) (ci := 8) (v := .ref gd) (C := RX8) (T := TX8) (N := 10) hx hb hts hinX8 hown hK hP 0 rfl rfl 6 (by decide) (hts (.fieldLink RX8 52 "WornRings" "loads" "[LWornRings$Load;") (by decide +kernel)) (fun _ h9 => h9) rfl dX8_repair_29 ?_
          refine lv_iload_n hx hb dX8_repair_32 rfl (lv_at hl 1 rfl) ?_
          refine va_aldq hx hb hK hP 1 6 rfl rfl (by unfold vp_in; decide) dX8_repair_33 ?_
          refine W.eq (g2 := F0 m 34 ls [va_rf (fd 3)]) rfl ?_
          rw [hq3]
          refine W.eq (g2 := F0 m 34 ls [.ref q3]) rfl ?_
          refine wVv (wr := [(g0, .inr (8, [.ref gm, .ref gk, .ref gs, .ref ga, .ref gl, .ref gh, .ref gd, .int wA, .int wB, .int wU])), (gd, .inl (E.2 6, 4, .inr (.inr (.inr (.inr fd))))), (q0, .inr (2, [.ref b0, .int 0, .int m0, .int 0])), (b0, .inl (E.2 1, 200, .inl f0)), (q1, .inr (2, [.ref b1, .int 0, .int m1, .int 0])), (b1, .inl (E.2 1, 200, .inl f1)), (q2, .inr (2, [.ref b2, .int 0, .int m2, .int 0])), (b2, .inl (E.2 1, 200, .inl f2))]) hE ⟨hx, hb, hml, hown, hts⟩ (c_X2_clear l E H.size q3 b3 k3 m3 w3 f3 ) (cwV 0 hts gX8_repair_X2_clear rfl rfl rfl (by decide +kernel) ⟨Nat.le_of_ble_eq_true rfl, Nat.le_of_ble_eq_true rfl⟩) hP hD hS hA [2, 3] [0, 1, 4, 5, 6, 7, 8, 9] rfl rfl (by decide) (by decide) (by decide) 0 2 rfl rfl rfl hl.1 rfl (Nat.le_of_ble_eq_true rfl) dX8_repair_34 ⟨(Nat.zero_le _), (Nat.zero_le _)⟩ (fun u H locs hw hP hD hS => ?_)
          have hP : va_P E.1 vwCl [(g0, .inr (8, [.ref gm, .ref gk, .ref gs, .ref ga, .ref gl, .ref gh, .ref gd, .int wA, .int wB, .int wU])), (gd, .inl (E.2 6, 4, .inr (.inr (.inr (.inr fd))))), (q0, .inr (2, [.ref b0, .int 0, .int m0, .int 0])), (b0, .inl (E.2 1, 200, .inl f0)), (q1, .inr (2, [.ref b1, .int 0, .int m1, .int 0])), (b1, .inl (E.2 1, 200, .inl f1)), (q2, .inr (2, [.ref b2, .int 0, .int m2, .int 0])), (b2, .inl (E.2 1, 200, .inl f2)), (q3, .inr (2, [.ref b3, .int 0, .int m3, .int 0])), (b3, .inl (E.2 1, 200, .inl f3))] H := hP
          have hD : va_D A [(g0, .inr (8, [.ref gm, .ref gk, .ref gs, .ref ga, .ref gl, .ref gh, .ref gd, .int wA, .int wB, .int wU])), (gd, .inl (E.2 6, 4, .inr (.inr (.inr (.inr fd))))), (q0, .inr (2, [.ref b0, .int 0, .int m0, .int 0])), (b0, .inl (E.2 1, 200, .inl f0)), (q1, .inr (2, [.ref b1, .int 0, .int m1, .int 0])), (b1, .inl (E.2 1, 200, .inl f1)), (q2, .inr (2, [.ref b2, .int 0, .int m2, .int 0])), (b2, .inl (E.2 1, 200, .inl f2)), (q3, .inr (2, [.ref b3, .int 0, .int m3, .int 0])), (b3, .inl (E.2 1, 200, .inl f3))] := hD
          refine lv_iinc (v := 4) (lv' := [(2, .int 4), (1, .int 3), (0, .ref g0)]) hx hb dX8_repair_37 hl (k := 1) rfl (by decide) (by decide) rfl (fun ls hl => ?_)
          refine lv_goto (tgt := 4) hx hb dX8_repair_40 (by decide) ?_
          refine lv_iload_n hx hb dX8_repair_4 rfl (lv_at hl 0 rfl) ?_
          refine lv_aload_n hx hb dX8_repair_5 rfl (lv_at hl 2 rfl) ?_
          refine va_get (D := E.1) (ci := 8) (v := .ref gd) (C := RX8) (T := TX8) (N := 10) hx hb hts hinX8 hown hK hP 0 rfl rfl 6 (by decide) (hts (.fieldLink RX8 52 "WornRings" "loads" "[LWornRings$Load;") (by decide +kernel)) (fun _ h9 => h9) rfl dX8_repair_6 ?_
          refine va_alen (v := 4) hx hb hK hP 1 6 rfl rfl rfl dX8_repair_9 ?_
          refine lv_icmp_ge (tgt := 43) hx hb dX8_repair_10 (by decide) (fun c_10 => ?_) (fun c_10 => by exfalso; revert c_10; decide)
          refine lv_iload_n hx hb dX8_repair_43 rfl (lv_at hl 1 rfl) ?_
          have hP9 : va_P E.1 vwCl [(g0, .inr (8, [.ref gm, .ref gk, .ref gs, .ref ga, .ref gl, .ref gh, .ref gd, .int wA, .int wB, .int wU])), (gd, .inl (E.2 6, 4, .inr (.inr (.inr (.inr fd))))), (q0, .inr (2, [.ref b0, .int 0, .int m0, .int 0])), (b0, .inl (E.2 1, 200, .inl f0)), (q1, .inr (2, [.ref b1, .int 0, .int m1, .int 0])), (b1, .inl (E.2 1, 200, .inl f1)), (q2, .inr (2, [.ref b2, .int 0, .int m2, .int 0])), (b2, .inl (E.2 1, 200, .inl f2)), (q3, .inr (2, [.ref b3, .int 0, .int m3, .int 0])), (b3, .inl (E.2 1, 200, .inl f3))] H := hP.sub [0, 1, 2, 3, 4, 5, 6, 7, 8, 9] rfl
          have hD9 : va_D A [(g0, .inr (8, [.ref gm, .ref gk, .ref gs, .ref ga, .ref gl, .ref gh, .ref gd, .int wA, .int wB, .int wU])), (gd, .inl (E.2 6, 4, .inr (.inr (.inr (.inr fd))))), (q0, .inr (2, [.ref b0, .int 0, .int m0, .int 0])), (b0, .inl (E.2 1, 200, .inl f0)), (q1, .inr (2, [.ref b1, .int 0, .int m1, .int 0])), (b1, .inl (E.2 1, 200, .inl f1)), (q2, .inr (2, [.ref b2, .int 0, .int m2, .int 0])), (b2, .inl (E.2 1, 200, .inl f2)), (q3, .inr (2, [.ref b3, .int 0, .int m3, .int 0])), (b3, .inl (E.2 1, 200, .inl f3))] := hD.sub [0, 1, 2, 3, 4, 5, 6, 7, 8, 9] (by decide) rfl
          exact W.iret (v := 3) hx hb hr (fun t9 ht9 hW9 => ⟨⟨3, (), rfl, by simp only [bzN, bz, d0, d1, d2, d3, if_true, if_false]; try rfl, ⟨by rw [ht9]; exact hP9, hD9⟩⟩, hS.F ht9⟩) hS.2.2 dX8_repair_44
    · refine lv_iinc (v := 2) (lv' := [(1, .int 2), (2, .int 1), (0, .ref g0)]) hx hb dX8_repair_25 hl (k := 1) rfl (by decide) (by decide) rfl (fun ls hl => ?_)
      have d1 := c_22
      refine lv_aload_n hx hb dX8_repair_28 rfl (lv_at hl 2 rfl) ?_
      refine va_get (D := E.1) (ci := 8) (v := .ref gd) (C := RX8) (T := TX8) (N := 10) hx hb hts hinX8 hown hK hP 0 rfl rfl 6 (by decide) (hts (.fieldLink RX8 52 "WornRings" "loads" "[LWornRings$Load;") (by decide +kernel)) (fun _ h9 => h9) rfl dX8_repair_29 ?_
      refine lv_iload_n hx hb dX8_repair_32 rfl (lv_at hl 1 rfl) ?_
      refine va_aldq hx hb hK hP 1 6 rfl rfl (by unfold vp_in; decide) dX8_repair_33 ?_
      refine W.eq (g2 := F0 m 34 ls [va_rf (fd 1)]) rfl ?_
      rw [hq1]
      refine W.eq (g2 := F0 m 34 ls [.ref q1]) rfl ?_
      refine wVv (wr := [(g0, .inr (8, [.ref gm, .ref gk, .ref gs, .ref ga, .ref gl, .ref gh, .ref gd, .int wA, .int wB, .int wU])), (gd, .inl (E.2 6, 4, .inr (.inr (.inr (.inr fd))))), (q2, .inr (2, [.ref b2, .int k2, .int m2, .int w2])), (b2, .inl (E.2 1, 200, .inl f2)), (q3, .inr (2, [.ref b3, .int k3, .int m3, .int w3])), (b3, .inl (E.2 1, 200, .inl f3)), (q0, .inr (2, [.ref b0, .int 0, .int m0, .int 0])), (b0, .inl (E.2 1, 200, .inl f0))]) hE ⟨hx, hb, hml, hown, hts⟩ (c_X2_clear l E H.size q1 b1 k1 m1 w1 f1 ) (cwV 0 hts gX8_repair_X2_clear rfl rfl rfl (by decide +kernel) ⟨Nat.le_of_ble_eq_true rfl, Nat.le_of_ble_eq_true rfl⟩) hP hD hS hA [2, 3] [0, 1, 4, 5, 6, 7, 8, 9] rfl rfl (by decide) (by decide) (by decide) 0 2 rfl rfl rfl hl.1 rfl (Nat.le_of_ble_eq_true rfl) dX8_repair_34 ⟨(Nat.zero_le _), (Nat.zero_le _)⟩ (fun u H locs hw hP hD hS => ?_)
      have hP : va_P E.1 vwCl [(g0, .inr (8, [.ref gm, .ref gk, .ref gs, .ref ga, .ref gl, .ref gh, .ref gd, .int wA, .int wB, .int wU])), (gd, .inl (E.2 6, 4, .inr (.inr (.inr (.inr fd))))), (q2, .inr (2, [.ref b2, .int k2, .int m2, .int w2])), (b2, .inl (E.2 1, 200, .inl f2)), (q3, .inr (2, [.ref b3, .int k3, .int m3, .int w3])), (b3, .inl (E.2 1, 200, .inl f3)), (q0, .inr (2, [.ref b0, .int 0, .int m0, .int 0])), (b0, .inl (E.2 1, 200, .inl f0)), (q1, .inr (2, [.ref b1, .int 0, .int m1, .int 0])), (b1, .inl (E.2 1, 200, .inl f1))] H := hP
      have hD : va_D A [(g0, .inr (8, [.ref gm, .ref gk, .ref gs, .ref ga, .ref gl, .ref gh, .ref gd, .int wA, .int wB, .int wU])), (gd, .inl (E.2 6, 4, .inr (.inr (.inr (.inr fd))))), (q2, .inr (2, [.ref b2, .int k2, .int m2, .int w2])), (b2, .inl (E.2 1, 200, .inl f2)), (q3, .inr (2, [.ref b3, .int k3, .int m3, .int w3])), (b3, .inl (E.2 1, 200, .inl f3)), (q0, .inr (2, [.ref b0, .int 0, .int m0, .int 0])), (b0, .inl (E.2 1, 200, .inl f0)), (q1, .inr (2, [.ref b1, .int 0, .int m1, .int 0])), (b1, .inl (E.2 1, 200, .inl f1))] := hD
      refine lv_iinc (v := 2) (lv' := [(2, .int 2), (1, .int 2), (0, .ref g0)]) hx hb dX8_repair_37 hl (k := 1) rfl (by decide) (by decide) rfl (fun ls hl => ?_)
      refine lv_goto (tgt := 4) hx hb dX8_repair_40 (by decide) ?_
      refine lv_iload_n hx hb dX8_repair_4 rfl (lv_at hl 0 rfl) ?_
      refine lv_aload_n hx hb dX8_repair_5 rfl (lv_at hl 2 rfl) ?_
      refine va_get (D := E.1) (ci := 8) (v := .ref gd) (C := RX8) (T := TX8) (N := 10) hx hb hts hinX8 hown hK hP 0 rfl rfl 6 (by decide) (hts (.fieldLink RX8 52 "WornRings" "loads" "[LWornRings$Load;") (by decide +kernel)) (fun _ h9 => h9) rfl dX8_repair_6 ?_
      refine va_alen (v := 4) hx hb hK hP 1 6 rfl rfl rfl dX8_repair_9 ?_
      refine lv_icmp_ge (tgt := 43) hx hb dX8_repair_10 (by decide) (fun c_10 => by exfalso; revert c_10; decide) (fun c_10 => ?_)
      refine lv_aload_n hx hb dX8_repair_13 rfl (lv_at hl 2 rfl) ?_
      refine va_get (D := E.1) (ci := 8) (v := .ref gd) (C := RX8) (T := TX8) (N := 10) hx hb hts hinX8 hown hK hP 0 rfl rfl 6 (by decide) (hts (.fieldLink RX8 52 "WornRings" "loads" "[LWornRings$Load;") (by decide +kernel)) (fun _ h9 => h9) rfl dX8_repair_14 ?_
      refine lv_iload_n hx hb dX8_repair_17 rfl (lv_at hl 0 rfl) ?_
      refine va_aldq hx hb hK hP 1 6 rfl rfl (by unfold vp_in; decide) dX8_repair_18 ?_
      refine W.eq (g2 := F0 m 19 ls [va_rf (fd 2)]) rfl ?_
      rw [hq2]
      refine W.eq (g2 := F0 m 19 ls [.ref q2]) rfl ?_
      refine va_getN (D := E.1) (host := "WornRings") (ref := "WornRings$Load") (ci := 2) (v := .int w2) (C := RX2) (T := TX2) (N := 4) hx hb hts hinX2 hown hK hP 2 rfl rfl 3 (by decide) (va_Nw.use rfl (hNN (.fieldLinkNest RX8 223 "WornRings$Load" "warning" "Z" "WornRings") (by decide +kernel))) (fun _ h9 => h9) rfl dX8_repair_19 ?_
      refine lv_if_eq (tgt := 28) hx hb dX8_repair_22 (by decide) (fun c_22 => ?_) (fun c_22 => ?_)
      · have d2 := c_22
        refine lv_aload_n hx hb dX8_repair_28 rfl (lv_at hl 2 rfl) ?_
        refine va_get (D := E.1) (ci := 8) (v := .ref gd) (C := RX8) (T := TX8) (N := 10) hx hb hts hinX8 hown hK hP 0 rfl rfl 6 (by decide) (hts (.fieldLink RX8 52 "WornRings" "loads" "[LWornRings$Load;") (by decide +kernel)) (fun _ h9 => h9) rfl dX8_repair_29 ?_
        refine lv_iload_n hx hb dX8_repair_32 rfl (lv_at hl 0 rfl) ?_
        refine va_aldq hx hb hK hP 1 6 rfl rfl (by unfold vp_in; decide) dX8_repair_33 ?_
        refine W.eq (g2 := F0 m 34 ls [va_rf (fd 2)]) rfl ?_
        rw [hq2]
        refine W.eq (g2 := F0 m 34 ls [.ref q2]) rfl ?_
        refine wVv (wr := [(g0, .inr (8, [.ref gm, .ref gk, .ref gs, .ref ga, .ref gl, .ref gh, .ref gd, .int wA, .int wB, .int wU])), (gd, .inl (E.2 6, 4, .inr (.inr (.inr (.inr fd))))), (q3, .inr (2, [.ref b3, .int k3, .int m3, .int w3])), (b3, .inl (E.2 1, 200, .inl f3)), (q0, .inr (2, [.ref b0, .int 0, .int m0, .int 0])), (b0, .inl (E.2 1, 200, .inl f0)), (q1, .inr (2, [.ref b1, .int 0, .int m1, .int 0])), (b1, .inl (E.2 1, 200, .inl f1))]) hE ⟨hx, hb, hml, hown, hts⟩ (c_X2_clear l E H.size q2 b2 k2 m2 w2 f2 ) (cwV 0 hts gX8_repair_X2_clear rfl rfl rfl (by decide +kernel) ⟨Nat.le_of_ble_eq_true rfl, Nat.le_of_ble_eq_true rfl⟩) hP hD hS hA [2, 3] [0, 1, 4, 5, 6, 7, 8, 9] rfl rfl (by decide) (by decide) (by decide) 0 2 rfl rfl rfl hl.1 rfl (Nat.le_of_ble_eq_true rfl) dX8_repair_34 ⟨(Nat.zero_le _), (Nat.zero_le _)⟩ (fun u H locs hw hP hD hS => ?_)
        have hP : va_P E.1 vwCl [(g0, .inr (8, [.ref gm, .ref gk, .ref gs, .ref ga, .ref gl, .ref gh, .ref gd, .int wA, .int wB, .int wU])), (gd, .inl (E.2 6, 4, .inr (.inr (.inr (.inr fd))))), (q3, .inr (2, [.ref b3, .int k3, .int m3, .int w3])), (b3, .inl (E.2 1, 200, .inl f3)), (q0, .inr (2, [.ref b0, .int 0, .int m0, .int 0])), (b0, .inl (E.2 1, 200, .inl f0)), (q1, .inr (2, [.ref b1, .int 0, .int m1, .int 0])), (b1, .inl (E.2 1, 200, .inl f1)), (q2, .inr (2, [.ref b2, .int 0, .int m2, .int 0])), (b2, .inl (E.2 1, 200, .inl f2))] H := hP
        have hD : va_D A [(g0, .inr (8, [.ref gm, .ref gk, .ref gs, .ref ga, .ref gl, .ref gh, .ref gd, .int wA, .int wB, .int wU])), (gd, .inl (E.2 6, 4, .inr (.inr (.inr (.inr fd))))), (q3, .inr (2, [.ref b3, .int k3, .int m3, .int w3])), (b3, .inl (E.2 1, 200, .inl f3)), (q0, .inr (2, [.ref b0, .int 0, .int m0, .int 0])), (b0, .inl (E.2 1, 200, .inl f0)), (q1, .inr (2, [.ref b1, .int 0, .int m1, .int 0])), (b1, .inl (E.2 1, 200, .inl f1)), (q2, .inr (2, [.ref b2, .int 0, .int m2, .int 0])), (b2, .inl (E.2 1, 200, .inl f2))] := hD
        refine lv_iinc (v := 3) (lv' := [(2, .int 3), (1, .int 2), (0, .ref g0)]) hx hb dX8_repair_37 hl (k := 0) rfl (by decide) (by decide) rfl (fun ls hl => ?_)
        refine lv_goto (tgt := 4) hx hb dX8_repair_40 (by decide) ?_
        refine lv_iload_n hx hb dX8_repair_4 rfl (lv_at hl 0 rfl) ?_
        refine lv_aload_n hx hb dX8_repair_5 rfl (lv_at hl 2 rfl) ?_
        refine va_get (D := E.1) (ci := 8) (v := .ref gd) (C := RX8) (T := TX8) (N := 10) hx hb hts hinX8 hown hK hP 0 rfl rfl 6 (by decide) (hts (.fieldLink RX8 52 "WornRings" "loads" "[LWornRings$Load;") (by decide +kernel)) (fun _ h9 => h9) rfl dX8_repair_6 ?_
        refine va_alen (v := 4) hx hb hK hP 1 6 rfl rfl rfl dX8_repair_9 ?_
        refine lv_icmp_ge (tgt := 43) hx hb dX8_repair_10 (by decide) (fun c_10 => by exfalso; revert c_10; decide) (fun c_10 => ?_)
        refine lv_aload_n hx hb dX8_repair_13 rfl (lv_at hl 2 rfl) ?_
        refine va_get (D := E.1) (ci := 8) (v := .ref gd) (C := RX8) (T := TX8) (N := 10) hx hb hts hinX8 hown hK hP 0 rfl rfl 6 (by decide) (hts (.fieldLink RX8 52 "WornRings" "loads" "[LWornRings$Load;") (by decide +kernel)) (fun _ h9 => h9) rfl dX8_repair_14 ?_
        refine lv_iload_n hx hb dX8_repair_17 rfl (lv_at hl 0 rfl) ?_
        refine va_aldq hx hb hK hP 1 6 rfl rfl (by unfold vp_in; decide) dX8_repair_18 ?_
        refine W.eq (g2 := F0 m 19 ls [va_rf (fd 3)]) rfl ?_
        rw [hq3]
        refine W.eq (g2 := F0 m 19 ls [.ref q3]) rfl ?_
        refine va_getN (D := E.1) (host := "WornRings") (ref := "WornRings$Load") (ci := 2) (v := .int w3) (C := RX2) (T := TX2) (N := 4) hx hb hts hinX2 hown hK hP 2 rfl rfl 3 (by decide) (va_Nw.use rfl (hNN (.fieldLinkNest RX8 223 "WornRings$Load" "warning" "Z" "WornRings") (by decide +kernel))) (fun _ h9 => h9) rfl dX8_repair_19 ?_
        refine lv_if_eq (tgt := 28) hx hb dX8_repair_22 (by decide) (fun c_22 => ?_) (fun c_22 => ?_)
        · have d3 := c_22
          refine lv_aload_n hx hb dX8_repair_28 rfl (lv_at hl 2 rfl) ?_
          refine va_get (D := E.1) (ci := 8) (v := .ref gd) (C := RX8) (T := TX8) (N := 10) hx hb hts hinX8 hown hK hP 0 rfl rfl 6 (by decide) (hts (.fieldLink RX8 52 "WornRings" "loads" "[LWornRings$Load;") (by decide +kernel)) (fun _ h9 => h9) rfl dX8_repair_29 ?_
          refine lv_iload_n hx hb dX8_repair_32 rfl (lv_at hl 0 rfl) ?_
          refine va_aldq hx hb hK hP 1 6 rfl rfl (by unfold vp_in; decide) dX8_repair_33 ?_
          refine W.eq (g2 := F0 m 34 ls [va_rf (fd 3)]) rfl ?_
          rw [hq3]
          refine W.eq (g2 := F0 m 34 ls [.ref q3]) rfl ?_
          refine wVv (wr := [(g0, .inr (8, [.ref gm, .ref gk, .ref gs, .ref ga, .ref gl, .ref gh, .ref gd, .int wA, .int wB, .int wU])), (gd, .inl (E.2 6, 4, .inr (.inr (.inr (.inr fd))))), (q0, .inr (2, [.ref b0, .int 0, .int m0, .int 0])), (b0, .inl (E.2 1, 200, .inl f0)), (q1, .inr (2, [.ref b1, .int 0, .int m1, .int 0])), (b1, .inl (E.2 1, 200, .inl f1)), (q2, .inr (2, [.ref b2, .int 0, .int m2, .int 0])), (b2, .inl (E.2 1, 200, .inl f2))]) hE ⟨hx, hb, hml, hown, hts⟩ (c_X2_clear l E H.size q3 b3 k3 m3 w3 f3 ) (cwV 0 hts gX8_repair_X2_clear rfl rfl rfl (by decide +kernel) ⟨Nat.le_of_ble_eq_true rfl, Nat.le_of_ble_eq_true rfl⟩) hP hD hS hA [2, 3] [0, 1, 4, 5, 6, 7, 8, 9] rfl rfl (by decide) (by decide) (by decide) 0 2 rfl rfl rfl hl.1 rfl (Nat.le_of_ble_eq_true rfl) dX8_repair_34 ⟨(Nat.zero_le _), (Nat.zero_le _)⟩ (fun u H locs hw hP hD hS => ?_)
          have hP : va_P E.1 vwCl [(g0, .inr (8, [.ref gm, .ref gk, .ref gs, .ref ga, .ref gl, .ref gh, .ref gd, .int wA, .int wB, .int wU])), (gd, .inl (E.2 6, 4, .inr (.inr (.inr (.inr fd))))), (q0, .inr (2, [.ref b0, .int 0, .int m0, .int 0])), (b0, .inl (E.2 1, 200, .inl f0)), (q1, .inr (2, [.ref b1, .int 0, .int m1, .int 0])), (b1, .inl (E.2 1, 200, .inl f1)), (q2, .inr (2, [.ref b2, .int 0, .int m2, .int 0])), (b2, .inl (E.2 1, 200, .inl f2)), (q3, .inr (2, [.ref b3, .int 0, .int m3, .int 0])), (b3, .inl (E.2 1, 200, .inl f3))] H := hP
          have hD : va_D A [(g0, .inr (8, [.ref gm, .ref gk, .ref gs, .ref ga, .ref gl, .ref gh, .ref gd, .int wA, .int wB, .int wU])), (gd, .inl (E.2 6, 4, .inr (.inr (.inr (.inr fd))))), (q0, .inr (2, [.ref b0, .int 0, .int m0, .int 0])), (b0, .inl (E.2 1, 200, .inl f0)), (q1, .inr (2, [.ref b1, .int 0, .int m1, .int 0])), (b1, .inl (E.2 1, 200, .inl f1)), (q2, .inr (2, [.ref b2, .int 0, .int m2, .int 0])), (b2, .inl (E.2 1, 200, .inl f2)), (q3, .inr (2, [.ref b3, .int 0, .int m3, .int 0])), (b3, .inl (E.2 1, 200, .inl f3))] := hD
          refine lv_iinc (v := 4) (lv' := [(2, .int 4), (1, .int 2), (0, .ref g0)]) hx hb dX8_repair_37 hl (k := 0) rfl (by decide) (by decide) rfl (fun ls hl => ?_)
          refine lv_goto (tgt := 4) hx hb dX8_repair_40 (by decide) ?_
          refine lv_iload_n hx hb dX8_repair_4 rfl (lv_at hl 0 rfl) ?_
          refine lv_aload_n hx hb dX8_repair_5 rfl (lv_at hl 2 rfl) ?_
          refine va_get (D := E.1) (ci := 8) (v := .ref gd) (C := RX8) (T := TX8) (N := 10) hx hb hts hinX8 hown hK hP 0 rfl rfl 6 (by decide) (hts (.fieldLink RX8 52 "WornRings" "loads" "[LWornRings$Load;") (by decide +kernel)) (fun _ h9 => h9) rfl dX8_repair_6 ?_
          refine va_alen (v := 4) hx hb hK hP 1 6 rfl rfl rfl dX8_repair_9 ?_
          refine lv_icmp_ge (tgt := 43) hx hb dX8_repair_10 (by decide) (fun c_10 => ?_) (fun c_10 => by exfalso; revert c_10; decide)
          refine lv_iload_n hx hb dX8_repair_43 rfl (lv_at hl 1 rfl) ?_
          have hP9 : va_P E.1 vwCl [(g0, .inr (8, [.ref gm, .ref gk, .ref gs, .ref ga, .ref gl, .ref gh, .ref gd, .int wA, .int wB, .int wU])), (gd, .inl (E.2 6, 4, .inr (.inr (.inr (.inr fd))))), (q0, .inr (2, [.ref b0, .int 0, .int m0, .int 0])), (b0, .inl (E.2 1, 200, .inl f0)), (q1, .inr (2, [.ref b1, .int 0, .int m1, .int 0])), (b1, .inl (E.2 1, 200, .inl f1)), (q2, .inr (2, [.ref b2, .int 0, .int m2, .int 0])), (b2, .inl (E.2 1, 200, .inl f2)), (q3, .inr (2, [.ref b3, .int 0, .int m3, .int 0])), (b3, .inl (E.2 1, 200, .inl f3))] H := hP.sub [0, 1, 2, 3, 4, 5, 6, 7, 8, 9] rfl
          have hD9 : va_D A [(g0, .inr (8, [.ref gm, .ref gk, .ref gs, .ref ga, .ref gl, .ref gh, .ref gd, .int wA, .int wB, .int wU])), (gd, .inl (E.2 6, 4, .inr (.inr (.inr (.inr fd))))), (q0, .inr (2, [.ref b0, .int 0, .int m0, .int 0])), (b0, .inl (E.2 1, 200, .inl f0)), (q1, .inr (2, [.ref b1, .int 0, .int m1, .int 0])), (b1, .inl (E.2 1, 200, .inl f1)), (q2, .inr (2, [.ref b2, .int 0, .int m2, .int 0])), (b2, .inl (E.2 1, 200, .inl f2)), (q3, .inr (2, [.ref b3, .int 0, .int m3, .int 0])), (b3, .inl (E.2 1, 200, .inl f3))] := hD.sub [0, 1, 2, 3, 4, 5, 6, 7, 8, 9] (by decide) rfl
          exact W.iret (v := 2) hx hb hr (fun t9 ht9 hW9 => ⟨⟨2, (), rfl, by simp only [bzN, bz, d0, d1, d2, d3, if_true, if_false]; try rfl, ⟨by rw [ht9]; exact hP9, hD9⟩⟩, hS.F ht9⟩) hS.2.2 dX8_repair_44
        · refine lv_iinc (v := 3) (lv' := [(1, .int 3), (2, .int 3), (0, .ref g0)]) hx hb dX8_repair_25 hl (k := 1) rfl (by decide) (by decide) rfl (fun ls hl => ?_)
          have d3 := c_22
          refine lv_aload_n hx hb dX8_repair_28 rfl (lv_at hl 2 rfl) ?_
          refine va_get (D := E.1) (ci := 8) (v := .ref gd) (C := RX8) (T := TX8) (N := 10) hx hb hts hinX8 hown hK hP 0 rfl rfl 6 (by decide) (hts (.fieldLink RX8 52 "WornRings" "loads" "[LWornRings$Load;") (by decide +kernel)) (fun _ h9 => h9) rfl dX8_repair_29 ?_
          refine lv_iload_n hx hb dX8_repair_32 rfl (lv_at hl 1 rfl) ?_
          refine va_aldq hx hb hK hP 1 6 rfl rfl (by unfold vp_in; decide) dX8_repair_33 ?_
          refine W.eq (g2 := F0 m 34 ls [va_rf (fd 3)]) rfl ?_
          rw [hq3]
          refine W.eq (g2 := F0 m 34 ls [.ref q3]) rfl ?_
          refine wVv (wr := [(g0, .inr (8, [.ref gm, .ref gk, .ref gs, .ref ga, .ref gl, .ref gh, .ref gd, .int wA, .int wB, .int wU])), (gd, .inl (E.2 6, 4, .inr (.inr (.inr (.inr fd))))), (q0, .inr (2, [.ref b0, .int 0, .int m0, .int 0])), (b0, .inl (E.2 1, 200, .inl f0)), (q1, .inr (2, [.ref b1, .int 0, .int m1, .int 0])), (b1, .inl (E.2 1, 200, .inl f1)), (q2, .inr (2, [.ref b2, .int 0, .int m2, .int 0])), (b2, .inl (E.2 1, 200, .inl f2))]) hE ⟨hx, hb, hml, hown, hts⟩ (c_X2_clear l E H.size q3 b3 k3 m3 w3 f3 ) (cwV 0 hts gX8_repair_X2_clear rfl rfl rfl (by decide +kernel) ⟨Nat.le_of_ble_eq_true rfl, Nat.le_of_ble_eq_true rfl⟩) hP hD hS hA [2, 3] [0, 1, 4, 5, 6, 7, 8, 9] rfl rfl (by decide) (by decide) (by decide) 0 2 rfl rfl rfl hl.1 rfl (Nat.le_of_ble_eq_true rfl) dX8_repair_34 ⟨(Nat.zero_le _), (Nat.zero_le _)⟩ (fun u H locs hw hP hD hS => ?_)
          have hP : va_P E.1 vwCl [(g0, .inr (8, [.ref gm, .ref gk, .ref gs, .ref ga, .ref gl, .ref gh, .ref gd, .int wA, .int wB, .int wU])), (gd, .inl (E.2 6, 4, .inr (.inr (.inr (.inr fd))))), (q0, .inr (2, [.ref b0, .int 0, .int m0, .int 0])), (b0, .inl (E.2 1, 200, .inl f0)), (q1, .inr (2, [.ref b1, .int 0, .int m1, .int 0])), (b1, .inl (E.2 1, 200, .inl f1)), (q2, .inr (2, [.ref b2, .int 0, .int m2, .int 0])), (b2, .inl (E.2 1, 200, .inl f2)), (q3, .inr (2, [.ref b3, .int 0, .int m3, .int 0])), (b3, .inl (E.2 1, 200, .inl f3))] H := hP
          have hD : va_D A [(g0, .inr (8, [.ref gm, .ref gk, .ref gs, .ref ga, .ref gl, .ref gh, .ref gd, .int wA, .int wB, .int wU])), (gd, .inl (E.2 6, 4, .inr (.inr (.inr (.inr fd))))), (q0, .inr (2, [.ref b0, .int 0, .int m0, .int 0])), (b0, .inl (E.2 1, 200, .inl f0)), (q1, .inr (2, [.ref b1, .int 0, .int m1, .int 0])), (b1, .inl (E.2 1, 200, .inl f1)), (q2, .inr (2, [.ref b2, .int 0, .int m2, .int 0])), (b2, .inl (E.2 1, 200, .inl f2)), (q3, .inr (2, [.ref b3, .int 0, .int m3, .int 0])), (b3, .inl (E.2 1, 200, .inl f3))] := hD
          refine lv_iinc (v := 4) (lv' := [(2, .int 4), (1, .int 3), (0, .ref g0)]) hx hb dX8_repair_37 hl (k := 1) rfl (by decide) (by decide) rfl (fun ls hl => ?_)
          refine lv_goto (tgt := 4) hx hb dX8_repair_40 (by decide) ?_
          refine lv_iload_n hx hb dX8_repair_4 rfl (lv_at hl 0 rfl) ?_
          refine lv_aload_n hx hb dX8_repair_5 rfl (lv_at hl 2 rfl) ?_
          refine va_get (D := E.1) (ci := 8) (v := .ref gd) (C := RX8) (T := TX8) (N := 10) hx hb hts hinX8 hown hK hP 0 rfl rfl 6 (by decide) (hts (.fieldLink RX8 52 "WornRings" "loads" "[LWornRings$Load;") (by decide +kernel)) (fun _ h9 => h9) rfl dX8_repair_6 ?_
          refine va_alen (v := 4) hx hb hK hP 1 6 rfl rfl rfl dX8_repair_9 ?_
          refine lv_icmp_ge (tgt := 43) hx hb dX8_repair_10 (by decide) (fun c_10 => ?_) (fun c_10 => by exfalso; revert c_10; decide)
          refine lv_iload_n hx hb dX8_repair_43 rfl (lv_at hl 1 rfl) ?_
          have hP9 : va_P E.1 vwCl [(g0, .inr (8, [.ref gm, .ref gk, .ref gs, .ref ga, .ref gl, .ref gh, .ref gd, .int wA, .int wB, .int wU])), (gd, .inl (E.2 6, 4, .inr (.inr (.inr (.inr fd))))), (q0, .inr (2, [.ref b0, .int 0, .int m0, .int 0])), (b0, .inl (E.2 1, 200, .inl f0)), (q1, .inr (2, [.ref b1, .int 0, .int m1, .int 0])), (b1, .inl (E.2 1, 200, .inl f1)), (q2, .inr (2, [.ref b2, .int 0, .int m2, .int 0])), (b2, .inl (E.2 1, 200, .inl f2)), (q3, .inr (2, [.ref b3, .int 0, .int m3, .int 0])), (b3, .inl (E.2 1, 200, .inl f3))] H := hP.sub [0, 1, 2, 3, 4, 5, 6, 7, 8, 9] rfl
          have hD9 : va_D A [(g0, .inr (8, [.ref gm, .ref gk, .ref gs, .ref ga, .ref gl, .ref gh, .ref gd, .int wA, .int wB, .int wU])), (gd, .inl (E.2 6, 4, .inr (.inr (.inr (.inr fd))))), (q0, .inr (2, [.ref b0, .int 0, .int m0, .int 0])), (b0, .inl (E.2 1, 200, .inl f0)), (q1, .inr (2, [.ref b1, .int 0, .int m1, .int 0])), (b1, .inl (E.2 1, 200, .inl f1)), (q2, .inr (2, [.ref b2, .int 0, .int m2, .int 0])), (b2, .inl (E.2 1, 200, .inl f2)), (q3, .inr (2, [.ref b3, .int 0, .int m3, .int 0])), (b3, .inl (E.2 1, 200, .inl f3))] := hD.sub [0, 1, 2, 3, 4, 5, 6, 7, 8, 9] (by decide) rfl
          exact W.iret (v := 3) hx hb hr (fun t9 ht9 hW9 => ⟨⟨3, (), rfl, by simp only [bzN, bz, d0, d1, d2, d3, if_true, if_false]; try rfl, ⟨by rw [ht9]; exact hP9, hD9⟩⟩, hS.F ht9⟩) hS.2.2 dX8_repair_44
      · refine lv_iinc (v := 3) (lv' := [(1, .int 3), (2, .int 2), (0, .ref g0)]) hx hb dX8_repair_25 hl (k := 1) rfl (by decide) (by decide) rfl (fun ls hl => ?_)
        have d2 := c_22
        refine lv_aload_n hx hb dX8_repair_28 rfl (lv_at hl 2 rfl) ?_
        refine va_get (D := E.1) (ci := 8) (v := .ref gd) (C := RX8) (T := TX8) (N := 10) hx hb hts hinX8 hown hK hP 0 rfl rfl 6 (by decide) (hts (.fieldLink RX8 52 "WornRings" "loads" "[LWornRings$Load;") (by decide +kernel)) (fun _ h9 => h9) rfl dX8_repair_29 ?_
        refine lv_iload_n hx hb dX8_repair_32 rfl (lv_at hl 1 rfl) ?_
        refine va_aldq hx hb hK hP 1 6 rfl rfl (by unfold vp_in; decide) dX8_repair_33 ?_
        refine W.eq (g2 := F0 m 34 ls [va_rf (fd 2)]) rfl ?_
        rw [hq2]
        refine W.eq (g2 := F0 m 34 ls [.ref q2]) rfl ?_
        refine wVv (wr := [(g0, .inr (8, [.ref gm, .ref gk, .ref gs, .ref ga, .ref gl, .ref gh, .ref gd, .int wA, .int wB, .int wU])), (gd, .inl (E.2 6, 4, .inr (.inr (.inr (.inr fd))))), (q3, .inr (2, [.ref b3, .int k3, .int m3, .int w3])), (b3, .inl (E.2 1, 200, .inl f3)), (q0, .inr (2, [.ref b0, .int 0, .int m0, .int 0])), (b0, .inl (E.2 1, 200, .inl f0)), (q1, .inr (2, [.ref b1, .int 0, .int m1, .int 0])), (b1, .inl (E.2 1, 200, .inl f1))]) hE ⟨hx, hb, hml, hown, hts⟩ (c_X2_clear l E H.size q2 b2 k2 m2 w2 f2 ) (cwV 0 hts gX8_repair_X2_clear rfl rfl rfl (by decide +kernel) ⟨Nat.le_of_ble_eq_true rfl, Nat.le_of_ble_eq_true rfl⟩) hP hD hS hA [2, 3] [0, 1, 4, 5, 6, 7, 8, 9] rfl rfl (by decide) (by decide) (by decide) 0 2 rfl rfl rfl hl.1 rfl (Nat.le_of_ble_eq_true rfl) dX8_repair_34 ⟨(Nat.zero_le _), (Nat.zero_le _)⟩ (fun u H locs hw hP hD hS => ?_)
        have hP : va_P E.1 vwCl [(g0, .inr (8, [.ref gm, .ref gk, .ref gs, .ref ga, .ref gl, .ref gh, .ref gd, .int wA, .int wB, .int wU])), (gd, .inl (E.2 6, 4, .inr (.inr (.inr (.inr fd))))), (q3, .inr (2, [.ref b3, .int k3, .int m3, .int w3])), (b3, .inl (E.2 1, 200, .inl f3)), (q0, .inr (2, [.ref b0, .int 0, .int m0, .int 0])), (b0, .inl (E.2 1, 200, .inl f0)), (q1, .inr (2, [.ref b1, .int 0, .int m1, .int 0])), (b1, .inl (E.2 1, 200, .inl f1)), (q2, .inr (2, [.ref b2, .int 0, .int m2, .int 0])), (b2, .inl (E.2 1, 200, .inl f2))] H := hP
        have hD : va_D A [(g0, .inr (8, [.ref gm, .ref gk, .ref gs, .ref ga, .ref gl, .ref gh, .ref gd, .int wA, .int wB, .int wU])), (gd, .inl (E.2 6, 4, .inr (.inr (.inr (.inr fd))))), (q3, .inr (2, [.ref b3, .int k3, .int m3, .int w3])), (b3, .inl (E.2 1, 200, .inl f3)), (q0, .inr (2, [.ref b0, .int 0, .int m0, .int 0])), (b0, .inl (E.2 1, 200, .inl f0)), (q1, .inr (2, [.ref b1, .int 0, .int m1, .int 0])), (b1, .inl (E.2 1, 200, .inl f1)), (q2, .inr (2, [.ref b2, .int 0, .int m2, .int 0])), (b2, .inl (E.2 1, 200, .inl f2))] := hD
        refine lv_iinc (v := 3) (lv' := [(2, .int 3), (1, .int 3), (0, .ref g0)]) hx hb dX8_repair_37 hl (k := 1) rfl (by decide) (by decide) rfl (fun ls hl => ?_)
        refine lv_goto (tgt := 4) hx hb dX8_repair_40 (by decide) ?_
        refine lv_iload_n hx hb dX8_repair_4 rfl (lv_at hl 0 rfl) ?_
        refine lv_aload_n hx hb dX8_repair_5 rfl (lv_at hl 2 rfl) ?_
        refine va_get (D := E.1) (ci := 8) (v := .ref gd) (C := RX8) (T := TX8) (N := 10) hx hb hts hinX8 hown hK hP 0 rfl rfl 6 (by decide) (hts (.fieldLink RX8 52 "WornRings" "loads" "[LWornRings$Load;") (by decide +kernel)) (fun _ h9 => h9) rfl dX8_repair_6 ?_
        refine va_alen (v := 4) hx hb hK hP 1 6 rfl rfl rfl dX8_repair_9 ?_
        refine lv_icmp_ge (tgt := 43) hx hb dX8_repair_10 (by decide) (fun c_10 => by exfalso; revert c_10; decide) (fun c_10 => ?_)
        refine lv_aload_n hx hb dX8_repair_13 rfl (lv_at hl 2 rfl) ?_
        refine va_get (D := E.1) (ci := 8) (v := .ref gd) (C := RX8) (T := TX8) (N := 10) hx hb hts hinX8 hown hK hP 0 rfl rfl 6 (by decide) (hts (.fieldLink RX8 52 "WornRings" "loads" "[LWornRings$Load;") (by decide +kernel)) (fun _ h9 => h9) rfl dX8_repair_14 ?_
        refine lv_iload_n hx hb dX8_repair_17 rfl (lv_at hl 0 rfl) ?_
        refine va_aldq hx hb hK hP 1 6 rfl rfl (by unfold vp_in; decide) dX8_repair_18 ?_
        refine W.eq (g2 := F0 m 19 ls [va_rf (fd 3)]) rfl ?_
        rw [hq3]
        refine W.eq (g2 := F0 m 19 ls [.ref q3]) rfl ?_
        refine va_getN (D := E.1) (host := "WornRings") (ref := "WornRings$Load") (ci := 2) (v := .int w3) (C := RX2) (T := TX2) (N := 4) hx hb hts hinX2 hown hK hP 2 rfl rfl 3 (by decide) (va_Nw.use rfl (hNN (.fieldLinkNest RX8 223 "WornRings$Load" "warning" "Z" "WornRings") (by decide +kernel))) (fun _ h9 => h9) rfl dX8_repair_19 ?_
        refine lv_if_eq (tgt := 28) hx hb dX8_repair_22 (by decide) (fun c_22 => ?_) (fun c_22 => ?_)
        · have d3 := c_22
          refine lv_aload_n hx hb dX8_repair_28 rfl (lv_at hl 2 rfl) ?_
          refine va_get (D := E.1) (ci := 8) (v := .ref gd) (C := RX8) (T := TX8) (N := 10) hx hb hts hinX8 hown hK hP 0 rfl rfl 6 (by decide) (hts (.fieldLink RX8 52 "WornRings" "loads" "[LWornRings$Load;") (by decide +kernel)) (fun _ h9 => h9) rfl dX8_repair_29 ?_
          refine lv_iload_n hx hb dX8_repair_32 rfl (lv_at hl 0 rfl) ?_
          refine va_aldq hx hb hK hP 1 6 rfl rfl (by unfold vp_in; decide) dX8_repair_33 ?_
          refine W.eq (g2 := F0 m 34 ls [va_rf (fd 3)]) rfl ?_
          rw [hq3]
          refine W.eq (g2 := F0 m 34 ls [.ref q3]) rfl ?_
          refine wVv (wr := [(g0, .inr (8, [.ref gm, .ref gk, .ref gs, .ref ga, .ref gl, .ref gh, .ref gd, .int wA, .int wB, .int wU])), (gd, .inl (E.2 6, 4, .inr (.inr (.inr (.inr fd))))), (q0, .inr (2, [.ref b0, .int 0, .int m0, .int 0])), (b0, .inl (E.2 1, 200, .inl f0)), (q1, .inr (2, [.ref b1, .int 0, .int m1, .int 0])), (b1, .inl (E.2 1, 200, .inl f1)), (q2, .inr (2, [.ref b2, .int 0, .int m2, .int 0])), (b2, .inl (E.2 1, 200, .inl f2))]) hE ⟨hx, hb, hml, hown, hts⟩ (c_X2_clear l E H.size q3 b3 k3 m3 w3 f3 ) (cwV 0 hts gX8_repair_X2_clear rfl rfl rfl (by decide +kernel) ⟨Nat.le_of_ble_eq_true rfl, Nat.le_of_ble_eq_true rfl⟩) hP hD hS hA [2, 3] [0, 1, 4, 5, 6, 7, 8, 9] rfl rfl (by decide) (by decide) (by decide) 0 2 rfl rfl rfl hl.1 rfl (Nat.le_of_ble_eq_true rfl) dX8_repair_34 ⟨(Nat.zero_le _), (Nat.zero_le _)⟩ (fun u H locs hw hP hD hS => ?_)
          have hP : va_P E.1 vwCl [(g0, .inr (8, [.ref gm, .ref gk, .ref gs, .ref ga, .ref gl, .ref gh, .ref gd, .int wA, .int wB, .int wU])), (gd, .inl (E.2 6, 4, .inr (.inr (.inr (.inr fd))))), (q0, .inr (2, [.ref b0, .int 0, .int m0, .int 0])), (b0, .inl (E.2 1, 200, .inl f0)), (q1, .inr (2, [.ref b1, .int 0, .int m1, .int 0])), (b1, .inl (E.2 1, 200, .inl f1)), (q2, .inr (2, [.ref b2, .int 0, .int m2, .int 0])), (b2, .inl (E.2 1, 200, .inl f2)), (q3, .inr (2, [.ref b3, .int 0, .int m3, .int 0])), (b3, .inl (E.2 1, 200, .inl f3))] H := hP
          have hD : va_D A [(g0, .inr (8, [.ref gm, .ref gk, .ref gs, .ref ga, .ref gl, .ref gh, .ref gd, .int wA, .int wB, .int wU])), (gd, .inl (E.2 6, 4, .inr (.inr (.inr (.inr fd))))), (q0, .inr (2, [.ref b0, .int 0, .int m0, .int 0])), (b0, .inl (E.2 1, 200, .inl f0)), (q1, .inr (2, [.ref b1, .int 0, .int m1, .int 0])), (b1, .inl (E.2 1, 200, .inl f1)), (q2, .inr (2, [.ref b2, .int 0, .int m2, .int 0])), (b2, .inl (E.2 1, 200, .inl f2)), (q3, .inr (2, [.ref b3, .int 0, .int m3, .int 0])), (b3, .inl (E.2 1, 200, .inl f3))] := hD
          refine lv_iinc (v := 4) (lv' := [(2, .int 4), (1, .int 3), (0, .ref g0)]) hx hb dX8_repair_37 hl (k := 0) rfl (by decide) (by decide) rfl (fun ls hl => ?_)
          refine lv_goto (tgt := 4) hx hb dX8_repair_40 (by decide) ?_
          refine lv_iload_n hx hb dX8_repair_4 rfl (lv_at hl 0 rfl) ?_
          refine lv_aload_n hx hb dX8_repair_5 rfl (lv_at hl 2 rfl) ?_
          refine va_get (D := E.1) (ci := 8) (v := .ref gd) (C := RX8) (T := TX8) (N := 10) hx hb hts hinX8 hown hK hP 0 rfl rfl 6 (by decide) (hts (.fieldLink RX8 52 "WornRings" "loads" "[LWornRings$Load;") (by decide +kernel)) (fun _ h9 => h9) rfl dX8_repair_6 ?_
          refine va_alen (v := 4) hx hb hK hP 1 6 rfl rfl rfl dX8_repair_9 ?_
          refine lv_icmp_ge (tgt := 43) hx hb dX8_repair_10 (by decide) (fun c_10 => ?_) (fun c_10 => by exfalso; revert c_10; decide)
          refine lv_iload_n hx hb dX8_repair_43 rfl (lv_at hl 1 rfl) ?_
          have hP9 : va_P E.1 vwCl [(g0, .inr (8, [.ref gm, .ref gk, .ref gs, .ref ga, .ref gl, .ref gh, .ref gd, .int wA, .int wB, .int wU])), (gd, .inl (E.2 6, 4, .inr (.inr (.inr (.inr fd))))), (q0, .inr (2, [.ref b0, .int 0, .int m0, .int 0])), (b0, .inl (E.2 1, 200, .inl f0)), (q1, .inr (2, [.ref b1, .int 0, .int m1, .int 0])), (b1, .inl (E.2 1, 200, .inl f1)), (q2, .inr (2, [.ref b2, .int 0, .int m2, .int 0])), (b2, .inl (E.2 1, 200, .inl f2)), (q3, .inr (2, [.ref b3, .int 0, .int m3, .int 0])), (b3, .inl (E.2 1, 200, .inl f3))] H := hP.sub [0, 1, 2, 3, 4, 5, 6, 7, 8, 9] rfl
          have hD9 : va_D A [(g0, .inr (8, [.ref gm, .ref gk, .ref gs, .ref ga, .ref gl, .ref gh, .ref gd, .int wA, .int wB, .int wU])), (gd, .inl (E.2 6, 4, .inr (.inr (.inr (.inr fd))))), (q0, .inr (2, [.ref b0, .int 0, .int m0, .int 0])), (b0, .inl (E.2 1, 200, .inl f0)), (q1, .inr (2, [.ref b1, .int 0, .int m1, .int 0])), (b1, .inl (E.2 1, 200, .inl f1)), (q2, .inr (2, [.ref b2, .int 0, .int m2, .int 0])), (b2, .inl (E.2 1, 200, .inl f2)), (q3, .inr (2, [.ref b3, .int 0, .int m3, .int 0])), (b3, .inl (E.2 1, 200, .inl f3))] := hD.sub [0, 1, 2, 3, 4, 5, 6, 7, 8, 9] (by decide) rfl
          exact W.iret (v := 3) hx hb hr (fun t9 ht9 hW9 => ⟨⟨3, (), rfl, by simp only [bzN, bz, d0, d1, d2, d3, if_true, if_false]; try rfl, ⟨by rw [ht9]; exact hP9, hD9⟩⟩, hS.F ht9⟩) hS.2.2 dX8_repair_44
        · refine lv_iinc (v := 4) (lv' := [(1, .int 4), (2, .int 3), (0, .ref g0)]) hx hb dX8_repair_25 hl (k := 1) rfl (by decide) (by decide) rfl (fun ls hl => ?_)
          have d3 := c_22
          refine lv_aload_n hx hb dX8_repair_28 rfl (lv_at hl 2 rfl) ?_
          refine va_get (D := E.1) (ci := 8) (v := .ref gd) (C := RX8) (T := TX8) (N := 10) hx hb hts hinX8 hown hK hP 0 rfl rfl 6 (by decide) (hts (.fieldLink RX8 52 "WornRings" "loads" "[LWornRings$Load;") (by decide +kernel)) (fun _ h9 => h9) rfl dX8_repair_29 ?_
          refine lv_iload_n hx hb dX8_repair_32 rfl (lv_at hl 1 rfl) ?_
          refine va_aldq hx hb hK hP 1 6 rfl rfl (by unfold vp_in; decide) dX8_repair_33 ?_
          refine W.eq (g2 := F0 m 34 ls [va_rf (fd 3)]) rfl ?_
          rw [hq3]
          refine W.eq (g2 := F0 m 34 ls [.ref q3]) rfl ?_
          refine wVv (wr := [(g0, .inr (8, [.ref gm, .ref gk, .ref gs, .ref ga, .ref gl, .ref gh, .ref gd, .int wA, .int wB, .int wU])), (gd, .inl (E.2 6, 4, .inr (.inr (.inr (.inr fd))))), (q0, .inr (2, [.ref b0, .int 0, .int m0, .int 0])), (b0, .inl (E.2 1, 200, .inl f0)), (q1, .inr (2, [.ref b1, .int 0, .int m1, .int 0])), (b1, .inl (E.2 1, 200, .inl f1)), (q2, .inr (2, [.ref b2, .int 0, .int m2, .int 0])), (b2, .inl (E.2 1, 200, .inl f2))]) hE ⟨hx, hb, hml, hown, hts⟩ (c_X2_clear l E H.size q3 b3 k3 m3 w3 f3 ) (cwV 0 hts gX8_repair_X2_clear rfl rfl rfl (by decide +kernel) ⟨Nat.le_of_ble_eq_true rfl, Nat.le_of_ble_eq_true rfl⟩) hP hD hS hA [2, 3] [0, 1, 4, 5, 6, 7, 8, 9] rfl rfl (by decide) (by decide) (by decide) 0 2 rfl rfl rfl hl.1 rfl (Nat.le_of_ble_eq_true rfl) dX8_repair_34 ⟨(Nat.zero_le _), (Nat.zero_le _)⟩ (fun u H locs hw hP hD hS => ?_)
          have hP : va_P E.1 vwCl [(g0, .inr (8, [.ref gm, .ref gk, .ref gs, .ref ga, .ref gl, .ref gh, .ref gd, .int wA, .int wB, .int wU])), (gd, .inl (E.2 6, 4, .inr (.inr (.inr (.inr fd))))), (q0, .inr (2, [.ref b0, .int 0, .int m0, .int 0])), (b0, .inl (E.2 1, 200, .inl f0)), (q1, .inr (2, [.ref b1, .int 0, .int m1, .int 0])), (b1, .inl (E.2 1, 200, .inl f1)), (q2, .inr (2, [.ref b2, .int 0, .int m2, .int 0])), (b2, .inl (E.2 1, 200, .inl f2)), (q3, .inr (2, [.ref b3, .int 0, .int m3, .int 0])), (b3, .inl (E.2 1, 200, .inl f3))] H := hP
          have hD : va_D A [(g0, .inr (8, [.ref gm, .ref gk, .ref gs, .ref ga, .ref gl, .ref gh, .ref gd, .int wA, .int wB, .int wU])), (gd, .inl (E.2 6, 4, .inr (.inr (.inr (.inr fd))))), (q0, .inr (2, [.ref b0, .int 0, .int m0, .int 0])), (b0, .inl (E.2 1, 200, .inl f0)), (q1, .inr (2, [.ref b1, .int 0, .int m1, .int 0])), (b1, .inl (E.2 1, 200, .inl f1)), (q2, .inr (2, [.ref b2, .int 0, .int m2, .int 0])), (b2, .inl (E.2 1, 200, .inl f2)), (q3, .inr (2, [.ref b3, .int 0, .int m3, .int 0])), (b3, .inl (E.2 1, 200, .inl f3))] := hD
          refine lv_iinc (v := 4) (lv' := [(2, .int 4), (1, .int 4), (0, .ref g0)]) hx hb dX8_repair_37 hl (k := 1) rfl (by decide) (by decide) rfl (fun ls hl => ?_)
          refine lv_goto (tgt := 4) hx hb dX8_repair_40 (by decide) ?_
          refine lv_iload_n hx hb dX8_repair_4 rfl (lv_at hl 0 rfl) ?_
          refine lv_aload_n hx hb dX8_repair_5 rfl (lv_at hl 2 rfl) ?_
          refine va_get (D := E.1) (ci := 8) (v := .ref gd) (C := RX8) (T := TX8) (N := 10) hx hb hts hinX8 hown hK hP 0 rfl rfl 6 (by decide) (hts (.fieldLink RX8 52 "WornRings" "loads" "[LWornRings$Load;") (by decide +kernel)) (fun _ h9 => h9) rfl dX8_repair_6 ?_
          refine va_alen (v := 4) hx hb hK hP 1 6 rfl rfl rfl dX8_repair_9 ?_
          refine lv_icmp_ge (tgt := 43) hx hb dX8_repair_10 (by decide) (fun c_10 => ?_) (fun c_10 => by exfalso; revert c_10; decide)
          refine lv_iload_n hx hb dX8_repair_43 rfl (lv_at hl 1 rfl) ?_
          have hP9 : va_P E.1 vwCl [(g0, .inr (8, [.ref gm, .ref gk, .ref gs, .ref ga, .ref gl, .ref gh, .ref gd, .int wA, .int wB, .int wU])), (gd, .inl (E.2 6, 4, .inr (.inr (.inr (.inr fd))))), (q0, .inr (2, [.ref b0, .int 0, .int m0, .int 0])), (b0, .inl (E.2 1, 200, .inl f0)), (q1, .inr (2, [.ref b1, .int 0, .int m1, .int 0])), (b1, .inl (E.2 1, 200, .inl f1)), (q2, .inr (2, [.ref b2, .int 0, .int m2, .int 0])), (b2, .inl (E.2 1, 200, .inl f2)), (q3, .inr (2, [.ref b3, .int 0, .int m3, .int 0])), (b3, .inl (E.2 1, 200, .inl f3))] H := hP.sub [0, 1, 2, 3, 4, 5, 6, 7, 8, 9] rfl
          have hD9 : va_D A [(g0, .inr (8, [.ref gm, .ref gk, .ref gs, .ref ga, .ref gl, .ref gh, .ref gd, .int wA, .int wB, .int wU])), (gd, .inl (E.2 6, 4, .inr (.inr (.inr (.inr fd))))), (q0, .inr (2, [.ref b0, .int 0, .int m0, .int 0])), (b0, .inl (E.2 1, 200, .inl f0)), (q1, .inr (2, [.ref b1, .int 0, .int m1, .int 0])), (b1, .inl (E.2 1, 200, .inl f1)), (q2, .inr (2, [.ref b2, .int 0, .int m2, .int 0])), (b2, .inl (E.2 1, 200, .inl f2)), (q3, .inr (2, [.ref b3, .int 0, .int m3, .int 0])), (b3, .inl (E.2 1, 200, .inl f3))] := hD.sub [0, 1, 2, 3, 4, 5, 6, 7, 8, 9] (by decide) rfl
          exact W.iret (v := 4) hx hb hr (fun t9 ht9 hW9 => ⟨⟨4, (), rfl, by simp only [bzN, bz, d0, d1, d2, d3, if_true, if_false]; try rfl, ⟨by rw [ht9]; exact hP9, hD9⟩⟩, hS.F ht9⟩) hS.2.2 dX8_repair_44
