/-! the model: shafts, rings, parts -/
theorem fIn_c {X L H : Int64} {x l h : Int32} (h1 : x.toInt64 = X) (h2 : l.toInt64 = L) (h3 : h.toInt64 = H) : fIn X L H = fWi x l h := by
  subst h1; subst h2; subst h3
  simp only [fIn, fWi, Int64.le_iff_toInt_le, Int32.le_iff_toInt_le, Int32.toInt_toInt64]
theorem kx {k s : Nat} (h : s ≤ k + 1) : nI k - nI s + 1 = nI (k + 1 - s) := by
  rw [← pk_sub h, nI_succ, Int32.sub_eq_add_neg, Int32.sub_eq_add_neg, Int32.add_assoc, Int32.add_comm (-nI s) 1, ← Int32.add_assoc]
def kdN (sh k : Nat) : Nat := if k < sh then 0 else if k < 2 * sh - 1 then 1 else 2 + (k + 1 - 2 * sh) % 4
def rgN (sh k : Nat) : Nat := (k + 1 - 2 * sh) / 4
def seN (sh : Nat) (Si : Nat → Nat) (k : Nat) : Nat := if k < sh then k else if k < 2 * sh - 1 then k - sh + 1 else Si (rgN sh k)
def tnN (sh k : Nat) : Nat := if kdN sh k = 0 ∨ kdN sh k = 3 then 3 else if kdN sh k = 4 then 1 else 2
theorem kdN_lt {sh k : Nat} : kdN sh k < 6 := by
  unfold kdN; split
  · omega
  · split
    · omega
    · have := Nat.mod_lt (k + 1 - 2 * sh) (show 0 < 4 by omega); omega
theorem tnN_in (sh k : Nat) : 0 < tnN sh k ∧ tnN sh k ≤ 3 := by
  unfold tnN; split
  · omega
  · split <;> omega
/-- the model's machine: numbers as they may be -/
def ModM (sh rg : Nat) (U V Te Si Ba Sm Gr : Nat → Nat) : Prop := (1 ≤ sh ∧ sh ≤ 4 ∧ rg ≤ 8) ∧ (∀ i, i < sh → 0 < U i ∧ U i ≤ 200 ^ i) ∧ (∀ i, i < sh → 0 < V i ∧ V i ≤ 200 ^ i) ∧ (∀ i, 1 ≤ i → i < sh → 5 ≤ Te i ∧ Te i ≤ 200) ∧ ∀ r, r < rg → Si r < sh ∧ (3 ≤ Ba r ∧ Ba r ≤ 30) ∧ (1 ≤ Sm r ∧ Sm r < Gr r ∧ Gr r ≤ 100)
theorem lN_ne {y : Nat} (h : ¬ y = 0) (hy : y < 2 ^ 63) : ¬ lN y = 0 := fun h9 => h ((pk_lEQ (a := y) (b := 0) hy (by omega)).mp h9)

set_option maxHeartbeats 1000000 in
set_option maxRecDepth 100000 in
theorem c_X9_reduce (l : Launch) (E : EnvT) (sz : Nat) (m0 : Nat) (sh : Int32) (rO : Nat) (rU : Nat) (rT : Nat) (rg : Int32) (rS : Nat) (rB : Nat) (rP : Nat) (rG : Nat) (ab0 : Int64) (be0 : Int64) (mk : Int32) (rM : Nat) (md : Int32) (rN : Nat) (rL : Nat) (rZ : Nat) (rE : Nat) (rI : Nat) (hc : Int32) (rA : Nat) (rX : Nat) (lnn : Int32) (rV : Nat) (rW : Nat) (sl : Int32) (rC : Nat) (rF : Nat) (rQ : Nat) (rK : Nat) (rR : Nat) (rD : Nat) (a : Nat) (b : Nat) (ha : 0 < a) (ha2 : a < 2 ^ 62) (hb0 : 0 < b) (hb2 : b < 2 ^ 62) : Met l yX9_reduce wsX9_reduce ({ frames := 0, cells := 0, slots := 0, locals := 0 }) (va_Pc [.ref m0, .long (lN a), .long (lN b)] (PW E [(m0, .inr (9, [.int sh, .ref rO, .ref rU, .ref rT, .int rg, .ref rS, .ref rB, .ref rP, .ref rG, .long ab0, .long be0, .int mk, .ref rM, .int md, .ref rN, .ref rL, .ref rZ, .ref rE, .ref rI, .int hc, .ref rA, .ref rX, .int lnn, .ref rV, .ref rW, .int sl, .ref rC, .ref rF, .ref rQ, .ref rK, .ref rR, .ref rD]))] sz)) (va_Qv (fun (uu : Unit) => True) (fun (uu : Unit) t => BW E (va_A [(m0, .inr (9, [.int sh, .ref rO, .ref rU, .ref rT, .int rg, .ref rS, .ref rB, .ref rP, .ref rG, .long ab0, .long be0, .int mk, .ref rM, .int md, .ref rN, .ref rL, .ref rZ, .ref rE, .ref rI, .int hc, .ref rA, .ref rX, .int lnn, .ref rV, .ref rW, .int sl, .ref rC, .ref rF, .ref rQ, .ref rK, .ref rR, .ref rD]))] sz) [(m0, .inr (9, [.int sh, .ref rO, .ref rU, .ref rT, .int rg, .ref rS, .ref rB, .ref rP, .ref rG, .long (lN (tA a b)), .long (lN (tB a b)), .int mk, .ref rM, .int md, .ref rN, .ref rL, .ref rZ, .ref rE, .ref rI, .int hc, .ref rA, .ref rX, .int lnn, .ref rV, .ref rW, .int sl, .ref rC, .ref rF, .ref rQ, .ref rK, .ref rR, .ref rD]))] t) (va_A [(m0, .inr (9, [.int sh, .ref rO, .ref rU, .ref rT, .int rg, .ref rS, .ref rB, .ref rP, .ref rG, .long ab0, .long be0, .int mk, .ref rM, .int md, .ref rN, .ref rL, .ref rZ, .ref rE, .ref rI, .int hc, .ref rA, .ref rX, .int lnn, .ref rV, .ref rW, .int sl, .ref rC, .ref rF, .ref rQ, .ref rK, .ref rR, .ref rD]))] sz)) 0 0 (va_A [(m0, .inr (9, [.int sh, .ref rO, .ref rU, .ref rT, .int rg, .ref rS, .ref rB, .ref rP, .ref rG, .long ab0, .long be0, .int mk, .ref rM, .int md, .ref rN, .ref rL, .ref rZ, .ref rE, .ref rI, .int hc, .ref rA, .ref rX, .int lnn, .ref rV, .ref rW, .int sl, .ref rC, .ref rF, .ref rQ, .ref rK, .ref rR, .ref rD]))] sz) := by
  refine Met.ofW (cc := cX9_reduce) (maxL := 11) (ret := none) (by decide +kernel) rfl ?_
  intro p e s m args below meth c s₁ B hml hv
  obtain ⟨rfl, hsz, hP, hE, hD0⟩ := hv
  have hx := B.exec
  have hb := B.bytes
  have hr := B.returns
  have hts := atoms_spec (ws := wsX9_reduce) B.pre
  have hown : s.vm.findClass RX9 = some m.cls := findClass_of_methodNamed B.named
  have hlocks := B.notSynchronized
  have hK := hE.1
  have hNN := hE.2.1
  have hinX9 : ∀ w ∈ wsX90, w ∈ wsX9_reduce := fun w h => List.mem_cons_of_mem _ (List.mem_append_right _ h)
  subst hsz
  have hD := hD0.self (sz := s.heap.size)
  generalize hAe : va_A [(m0, .inr (9, [.int sh, .ref rO, .ref rU, .ref rT, .int rg, .ref rS, .ref rB, .ref rP, .ref rG, .long ab0, .long be0, .int mk, .ref rM, .int md, .ref rN, .ref rL, .ref rZ, .ref rE, .ref rI, .int hc, .ref rA, .ref rX, .int lnn, .ref rV, .ref rW, .int sl, .ref rC, .ref rF, .ref rQ, .ref rK, .ref rR, .ref rD]))] s.heap.size = A at hD ⊢
  have hA : ∀ q : Nat, s.heap.size ≤ q → A q := fun q h => by rw [← hAe]; exact Or.inr h
  have hS : va_S A s.heap s.heap [] := va_S.rf
  have hl := lv_entry ([.ref m0, .long (lN a), .long (lN b)]) (n := 11) (Nat.le_of_ble_eq_true rfl)
  rw [lg_entry_eq]
  generalize (lg_sl ([.ref m0, .long (lN a), .long (lN b)]) ++ List.replicate (11 - (lg_sl ([.ref m0, .long (lN a), .long (lN b)])).length) Slot.unset).toArray = ls at hl ⊢
  have hl : lv_has ls 11 [(0, .ref m0), (1, .long (lN a)), (3, .long (lN b))] := hl
  refine lv_lload_n hx hb dX9_reduce_0 rfl (lv_at hl 1 rfl) ?_
  refine lv_lstore (lv' := [(5, .long (lN a)), (0, .ref m0), (1, .long (lN a)), (3, .long (lN b))]) hx hb dX9_reduce_1 hl (by decide) rfl (fun ls hl => ?_)
  refine lv_lload_n hx hb dX9_reduce_3 rfl (lv_at hl 3 rfl) ?_
  refine lv_lstore (lv' := [(7, .long (lN b)), (5, .long (lN a)), (0, .ref m0), (1, .long (lN a)), (3, .long (lN b))]) hx hb dX9_reduce_4 hl (by decide) rfl (fun ls hl => ?_)
  refine (fun (lp6 : ∀ (n9 : Nat) (x : Nat) (y : Nat) (H : Heap) (locs : List Loc) (ls : Array Slot), y < n9 → (0 < x) → (x < 2 ^ 62) → (y < 2 ^ 62) → (Nat.gcd x y = Nat.gcd a b) → va_P E.1 vwCl [(m0, .inr (9, [.int sh, .ref rO, .ref rU, .ref rT, .int rg, .ref rS, .ref rB, .ref rP, .ref rG, .long ab0, .long be0, .int mk, .ref rM, .int md, .ref rN, .ref rL, .ref rZ, .ref rE, .ref rI, .int hc, .ref rA, .ref rX, .int lnn, .ref rV, .ref rW, .int sl, .ref rC, .ref rF, .ref rQ, .ref rK, .ref rR, .ref rD]))] H → va_D A [(m0, .inr (9, [.int sh, .ref rO, .ref rU, .ref rT, .int rg, .ref rS, .ref rB, .ref rP, .ref rG, .long ab0, .long be0, .int mk, .ref rM, .int md, .ref rN, .ref rL, .ref rZ, .ref rE, .ref rI, .int hc, .ref rA, .ref rX, .int lnn, .ref rV, .ref rW, .int sl, .ref rC, .ref rF, .ref rQ, .ref rK, .ref rR, .ref rD]))] → va_S A s.heap H locs → lv_has ls 11 [(0, .ref m0), (1, .long (lN a)), (3, .long (lN b)), (5, .long (lN x)), (7, .long (lN y))] → W p l e _ s m _ below meth c H locs _ _ _ (F0 m 6 ls [])) => lp6 (b + 1) a b _ _ _ (by omega) (ha) (ha2) (hb2) (rfl) (hP.sub [0] rfl) (hD.sub [0] (by decide) rfl) hS (lv_sub hl [2, 3, 4, 1, 0] rfl)) ?_
  intro n6
  induction n6 with
  | zero => intro x y H locs ls h0; exact absurd (by assumption) (Nat.not_lt_zero _)
  | succ n6 ih6 =>
    intro x y H locs ls hmu6 hx1 hx2 hy2 hg hP hD hS hl
    refine lv_lload hx hb dX9_reduce_6 (lv_at hl 4 rfl) ?_
    refine lv_lconst (v := 0) hx hb dX9_reduce_8 (by decide) ?_
    refine W.lcmp hx hb dX9_reduce_9 ?_
    refine lv_if_eq (tgt := 31) hx hb dX9_reduce_10 (by decide) (fun c_10 => ?_) (fun c_10 => ?_)
    · have c_10 := lc_eq c_10
      have c_10 : y = 0 := (pk_lEQ (a := y) (b := 0) (by omega) (by omega)).mp c_10
      have ex : x = Nat.gcd a b := by rw [← hg, c_10, Nat.gcd_zero_right]
      refine lv_aload_n hx hb dX9_reduce_31 rfl (lv_at hl 0 rfl) ?_
      refine lv_lload_n hx hb dX9_reduce_32 rfl (lv_at hl 1 rfl) ?_
      refine lv_lload hx hb dX9_reduce_33 (lv_at hl 3 rfl) ?_
      refine lv_ldiv hx hb dX9_reduce_35 (lN_ne (by omega) (by omega)) ?_
      rw [show ((lN a) / (lN x) : Int64) = lN (a / x) from pk_lDiv (a := a) (b := x) (by omega) (by omega) (by omega)]
      refine va_put (D := E.1) (ci := 9) (v := .long (lN (a / x))) (ty := .long) (C := RX9) (T := TX9) (N := 32) hx hb hts hinX9 tyX9 tyX9_ok nmX9 hown hK hP hD hS 0 rfl rfl 9 (by decide) (hts (.fieldLink RX9 89 "WornRingsModel" "above" "J") (by decide +kernel)) (fun _ h9 => h9) rfl (by decide +kernel) (rfl) (rfl) (Nat.le_of_ble_eq_true rfl) dX9_reduce_36 (fun H locs hP hD hS => ?_)
      have hP : va_P E.1 vwCl [(m0, .inr (9, [.int sh, .ref rO, .ref rU, .ref rT, .int rg, .ref rS, .ref rB, .ref rP, .ref rG, .long (lN (a / x)), .long be0, .int mk, .ref rM, .int md, .ref rN, .ref rL, .ref rZ, .ref rE, .ref rI, .int hc, .ref rA, .ref rX, .int lnn, .ref rV, .ref rW, .int sl, .ref rC, .ref rF, .ref rQ, .ref rK, .ref rR, .ref rD]))] H := hP
      have hD : va_D A [(m0, .inr (9, [.int sh, .ref rO, .ref rU, .ref rT, .int rg, .ref rS, .ref rB, .ref rP, .ref rG, .long (lN (a / x)), .long be0, .int mk, .ref rM, .int md, .ref rN, .ref rL, .ref rZ, .ref rE, .ref rI, .int hc, .ref rA, .ref rX, .int lnn, .ref rV, .ref rW, .int sl, .ref rC, .ref rF, .ref rQ, .ref rK, .ref rR, .ref rD]))] := hD
      refine lv_aload_n hx hb dX9_reduce_39 rfl (lv_at hl 0 rfl) ?_
      refine lv_lload_n hx hb dX9_reduce_40 rfl (lv_at hl 2 rfl) ?_
      refine lv_lload hx hb dX9_reduce_41 (lv_at hl 3 rfl) ?_
      refine lv_ldiv hx hb dX9_reduce_43 (lN_ne (by omega) (by omega)) ?_
      rw [show ((lN b) / (lN x) : Int64) = lN (b / x) from pk_lDiv (a := b) (b := x) (by omega) (by omega) (by omega)]
      refine va_put (D := E.1) (ci := 9) (v := .long (lN (b / x))) (ty := .long) (C := RX9) (T := TX9) (N := 32) hx hb hts hinX9 tyX9 tyX9_ok nmX9 hown hK hP hD hS 0 rfl rfl 10 (by decide) (hts (.fieldLink RX9 93 "WornRingsModel" "below" "J") (by decide +kernel)) (fun _ h9 => h9) rfl (by decide +kernel) (rfl) (rfl) (Nat.le_of_ble_eq_true rfl) dX9_reduce_44 (fun H locs hP hD hS => ?_)
      have hP : va_P E.1 vwCl [(m0, .inr (9, [.int sh, .ref rO, .ref rU, .ref rT, .int rg, .ref rS, .ref rB, .ref rP, .ref rG, .long (lN (a / x)), .long (lN (b / x)), .int mk, .ref rM, .int md, .ref rN, .ref rL, .ref rZ, .ref rE, .ref rI, .int hc, .ref rA, .ref rX, .int lnn, .ref rV, .ref rW, .int sl, .ref rC, .ref rF, .ref rQ, .ref rK, .ref rR, .ref rD]))] H := hP
      have hD : va_D A [(m0, .inr (9, [.int sh, .ref rO, .ref rU, .ref rT, .int rg, .ref rS, .ref rB, .ref rP, .ref rG, .long (lN (a / x)), .long (lN (b / x)), .int mk, .ref rM, .int md, .ref rN, .ref rL, .ref rZ, .ref rE, .ref rI, .int hc, .ref rA, .ref rX, .int lnn, .ref rV, .ref rW, .int sl, .ref rC, .ref rF, .ref rQ, .ref rK, .ref rR, .ref rD]))] := hD
      have e9 : ([(m0, .inr (9, [.int sh, .ref rO, .ref rU, .ref rT, .int rg, .ref rS, .ref rB, .ref rP, .ref rG, .long (lN (tA a b)), .long (lN (tB a b)), .int mk, .ref rM, .int md, .ref rN, .ref rL, .ref rZ, .ref rE, .ref rI, .int hc, .ref rA, .ref rX, .int lnn, .ref rV, .ref rW, .int sl, .ref rC, .ref rF, .ref rQ, .ref rK, .ref rR, .ref rD]))] : va_W) = [(m0, .inr (9, [.int sh, .ref rO, .ref rU, .ref rT, .int rg, .ref rS, .ref rB, .ref rP, .ref rG, .long (lN (a / x)), .long (lN (b / x)), .int mk, .ref rM, .int md, .ref rN, .ref rL, .ref rZ, .ref rE, .ref rI, .int hc, .ref rA, .ref rX, .int lnn, .ref rV, .ref rW, .int sl, .ref rC, .ref rF, .ref rQ, .ref rK, .ref rR, .ref rD]))] := by rw [tA, tB, ← ex]
      have hP9 : va_P E.1 vwCl [(m0, .inr (9, [.int sh, .ref rO, .ref rU, .ref rT, .int rg, .ref rS, .ref rB, .ref rP, .ref rG, .long (lN (tA a b)), .long (lN (tB a b)), .int mk, .ref rM, .int md, .ref rN, .ref rL, .ref rZ, .ref rE, .ref rI, .int hc, .ref rA, .ref rX, .int lnn, .ref rV, .ref rW, .int sl, .ref rC, .ref rF, .ref rQ, .ref rK, .ref rR, .ref rD]))] H := by rw [e9]; exact hP.sub [0] rfl
      have hD9 : va_D A [(m0, .inr (9, [.int sh, .ref rO, .ref rU, .ref rT, .int rg, .ref rS, .ref rB, .ref rP, .ref rG, .long (lN (tA a b)), .long (lN (tB a b)), .int mk, .ref rM, .int md, .ref rN, .ref rL, .ref rZ, .ref rE, .ref rI, .int hc, .ref rA, .ref rX, .int lnn, .ref rV, .ref rW, .int sl, .ref rC, .ref rF, .ref rQ, .ref rK, .ref rR, .ref rD]))] := by rw [e9]; exact hD.sub [0] (by decide) rfl
      exact W.vret hx hb hr (fun t9 ht9 hW9 => ⟨⟨(), rfl, trivial, ⟨by rw [ht9]; exact hP9, hD9⟩⟩, hS.F ht9⟩) hS.2.2 dX9_reduce_47
    · have c_10 := lc_eq_n c_10
      have c_10 : ¬ y = 0 := fun h9 => c_10 ((pk_lEQ (a := y) (b := 0) (by omega) (by omega)).mpr h9)
      refine lv_lload hx hb dX9_reduce_13 (lv_at hl 3 rfl) ?_
      refine lv_lload hx hb dX9_reduce_15 (lv_at hl 4 rfl) ?_
      refine lv_lrem hx hb dX9_reduce_17 (lN_ne c_10 (by omega)) ?_
      rw [show ((lN x) - (lN x) / (lN y) * (lN y) : Int64) = lN (x % y) from pk_lRem (a := x) (b := y) (by omega) (by omega) (by omega)]
      refine lv_lstore (lv' := [(9, .long (lN (x % y))), (0, .ref m0), (1, .long (lN a)), (3, .long (lN b)), (5, .long (lN x)), (7, .long (lN y))]) hx hb dX9_reduce_18 hl (by decide) rfl (fun ls hl => ?_)
      refine lv_lload hx hb dX9_reduce_20 (lv_at hl 5 rfl) ?_
      refine lv_lstore (lv' := [(5, .long (lN y)), (9, .long (lN (x % y))), (0, .ref m0), (1, .long (lN a)), (3, .long (lN b)), (7, .long (lN y))]) hx hb dX9_reduce_22 hl (by decide) rfl (fun ls hl => ?_)
      refine lv_lload hx hb dX9_reduce_24 (lv_at hl 1 rfl) ?_
      refine lv_lstore (lv' := [(7, .long (lN (x % y))), (5, .long (lN y)), (9, .long (lN (x % y))), (0, .ref m0), (1, .long (lN a)), (3, .long (lN b))]) hx hb dX9_reduce_26 hl (by decide) rfl (fun ls hl => ?_)
      refine lv_goto (tgt := 6) hx hb dX9_reduce_28 (by decide) ?_
      exact ih6 y (x % y) _ _ _ (by have h9 := Nat.mod_lt x (show 0 < y by omega); omega) (by omega) (hy2) (by have h9 := Nat.mod_lt x (show 0 < y by omega); omega) (by rw [← hg, Nat.gcd_comm x y, Nat.gcd_rec y x, Nat.gcd_comm]) (hP.sub [0] rfl) (hD.sub [0] (by decide) rfl) hS (lv_sub hl [3, 4, 5, 1, 0] rfl)
set_option maxHeartbeats 1000000 in
set_option maxRecDepth 100000 in
theorem c_X9_shaft_no (l : Launch) (E : EnvT) (sz : Nat) (m0 : Nat) (sh : Nat) (rO : Nat) (rU : Nat) (rT : Nat) (rg : Int32) (rS : Nat) (rB : Nat) (rP : Nat) (rG : Nat) (ab0 : Int64) (be0 : Int64) (mk : Int32) (rM : Nat) (md : Int32) (rN : Nat) (rL : Nat) (rZ : Nat) (rE : Nat) (rI : Nat) (hc : Int32) (rA : Nat) (rX : Nat) (lnn : Int32) (rV : Nat) (rW : Nat) (sl : Int32) (rC : Nat) (rF : Nat) (rQ : Nat) (rK : Nat) (rR : Nat) (rD : Nat) (yy : Int32) (av : Int32) (bv : Int32) (hs1 : 1 ≤ sh) (hs4 : sh ≤ 4) (hno : ¬ ((0 ≤ yy ∧ yy ≤ nI (sh - 1)) ∧ (5 ≤ av ∧ av ≤ 200) ∧ (5 ≤ bv ∧ bv ≤ 200)) ∨ 4 ≤ sh) : Met l yX9_shaft wsX9_shaft ({ frames := 1, cells := 0, slots := 0, locals := 25 }) (va_Pc [.ref m0, .int yy, .int av, .int bv] (PW E [(m0, .inr (9, [.int (nI sh), .ref rO, .ref rU, .ref rT, .int rg, .ref rS, .ref rB, .ref rP, .ref rG, .long ab0, .long be0, .int mk, .ref rM, .int md, .ref rN, .ref rL, .ref rZ, .ref rE, .ref rI, .int hc, .ref rA, .ref rX, .int lnn, .ref rV, .ref rW, .int sl, .ref rC, .ref rF, .ref rQ, .ref rK, .ref rR, .ref rD]))] sz)) (va_Qi (fun (r : Int32) (uu : Unit) => r = if (0 ≤ yy ∧ yy ≤ nI (sh - 1)) ∧ (5 ≤ av ∧ av ≤ 200) ∧ (5 ≤ bv ∧ bv ≤ 200) then -3 else -1) (fun (uu : Unit) t => BW E (va_A [(m0, .inr (9, [.int (nI sh), .ref rO, .ref rU, .ref rT, .int rg, .ref rS, .ref rB, .ref rP, .ref rG, .long ab0, .long be0, .int mk, .ref rM, .int md, .ref rN, .ref rL, .ref rZ, .ref rE, .ref rI, .int hc, .ref rA, .ref rX, .int lnn, .ref rV, .ref rW, .int sl, .ref rC, .ref rF, .ref rQ, .ref rK, .ref rR, .ref rD]))] sz) [(m0, .inr (9, [.int (nI sh), .ref rO, .ref rU, .ref rT, .int rg, .ref rS, .ref rB, .ref rP, .ref rG, .long ab0, .long be0, .int mk, .ref rM, .int md, .ref rN, .ref rL, .ref rZ, .ref rE, .ref rI, .int hc, .ref rA, .ref rX, .int lnn, .ref rV, .ref rW, .int sl, .ref rC, .ref rF, .ref rQ, .ref rK, .ref rR, .ref rD]))] t) (va_A [(m0, .inr (9, [.int (nI sh), .ref rO, .ref rU, .ref rT, .int rg, .ref rS, .ref rB, .ref rP, .ref rG, .long ab0, .long be0, .int mk, .ref rM, .int md, .ref rN, .ref rL, .ref rZ, .ref rE, .ref rI, .int hc, .ref rA, .ref rX, .int lnn, .ref rV, .ref rW, .int sl, .ref rC, .ref rF, .ref rQ, .ref rK, .ref rR, .ref rD]))] sz)) 0 0 (va_A [(m0, .inr (9, [.int (nI sh), .ref rO, .ref rU, .ref rT, .int rg, .ref rS, .ref rB, .ref rP, .ref rG, .long ab0, .long be0, .int mk, .ref rM, .int md, .ref rN, .ref rL, .ref rZ, .ref rE, .ref rI, .int hc, .ref rA, .ref rX, .int lnn, .ref rV, .ref rW, .int sl, .ref rC, .ref rF, .ref rQ, .ref rK, .ref rR, .ref rD]))] sz) := by
  refine Met.ofW (cc := cX9_shaft) (maxL := 4) (ret := (some .int)) (by decide +kernel) rfl ?_
  intro p e s m args below meth c s₁ B hml hv
  obtain ⟨rfl, hsz, hP, hE, hD0⟩ := hv
  have hx := B.exec
  have hb := B.bytes
  have hr := B.returns
  have hts := atoms_spec (ws := wsX9_shaft) B.pre
  have hown : s.vm.findClass RX9 = some m.cls := findClass_of_methodNamed B.named
  have hlocks := B.notSynchronized
  have hK := hE.1
  have hNN := hE.2.1
  have hinX9 : ∀ w ∈ wsX90, w ∈ wsX9_shaft := fun w h => List.mem_cons_of_mem _ (List.mem_append_right _ h)
  subst hsz
  have hD := hD0.self (sz := s.heap.size)
  generalize hAe : va_A [(m0, .inr (9, [.int (nI sh), .ref rO, .ref rU, .ref rT, .int rg, .ref rS, .ref rB, .ref rP, .ref rG, .long ab0, .long be0, .int mk, .ref rM, .int md, .ref rN, .ref rL, .ref rZ, .ref rE, .ref rI, .int hc, .ref rA, .ref rX, .int lnn, .ref rV, .ref rW, .int sl, .ref rC, .ref rF, .ref rQ, .ref rK, .ref rR, .ref rD]))] s.heap.size = A at hD ⊢
  have hA : ∀ q : Nat, s.heap.size ≤ q → A q := fun q h => by rw [← hAe]; exact Or.inr h
  have hS : va_S A s.heap s.heap [] := va_S.rf
  have hl := lv_entry ([.ref m0, .int yy, .int av, .int bv]) (n := 4) (Nat.le_of_ble_eq_true rfl)
  rw [lg_entry_eq]
  generalize (lg_sl ([.ref m0, .int yy, .int av, .int bv]) ++ List.replicate (4 - (lg_sl ([.ref m0, .int yy, .int av, .int bv])).length) Slot.unset).toArray = ls at hl ⊢
  have hl : lv_has ls 4 [(0, .ref m0), (1, .int yy), (2, .int av), (3, .int bv)] := hl
  refine lv_iload_n hx hb dX9_shaft_0 rfl (lv_at hl 1 rfl) ?_
  refine lv_i2l (v := yy.toInt64) hx hb dX9_shaft_1 (rfl) ?_
  refine lv_lconst (v := 0) hx hb dX9_shaft_2 (by decide) ?_
  refine lv_aload_n hx hb dX9_shaft_3 rfl (lv_at hl 0 rfl) ?_
  refine va_get (D := E.1) (ci := 9) (v := .int (nI sh)) (C := RX9) (T := TX9) (N := 32) hx hb hts hinX9 hown hK hP 0 rfl rfl 0 (by decide) (hts (.fieldLink RX9 7 "WornRingsModel" "shafts" "I") (by decide +kernel)) (fun _ h9 => h9) rfl dX9_shaft_4 ?_
  refine lv_iconst (v := 1) hx hb dX9_shaft_7 (by decide) ?_
  refine lv_isub hx hb dX9_shaft_8 ?_
  rw [show ((nI sh) - (1 : Int32) : Int32) = nI (sh - 1) from pk_sub (a := sh) (b := 1) (by omega)]
  refine lv_i2l (v := lN (sh - 1)) hx hb dX9_shaft_9 (nI_l (by omega)) ?_
  refine rSi hE ⟨hx, hb, hml, hown, hts⟩ (c_X9_in l E yy.toInt64 0 (lN (sh - 1)) ) (va_cwS 3 hts gX9_shaft_X9_in rfl rfl rfl (by decide +kernel) ⟨Nat.le_of_ble_eq_true rfl, Nat.le_of_ble_eq_true rfl⟩) (hP.sub [] rfl) rfl hl.1 rfl (Nat.le_of_ble_eq_true rfl) dX9_shaft_10 ⟨(Nat.zero_le _), (Nat.zero_le _)⟩ ?_
  rw [show fIn yy.toInt64 0 (lN (sh - 1)) = fWi yy 0 (nI (sh - 1)) from fIn_c (rfl) (by decide) (nI_l (by omega))]
  refine lv_if_eq (tgt := 44) hx hb dX9_shaft_13 (by decide) (fun c_13 => ?_) (fun c_13 => ?_)
  · have c_13 := fWi_0 c_13
    refine lv_iconst (v := (-1)) hx hb dX9_shaft_44 (by decide) ?_
    have hP9 : va_P E.1 vwCl [(m0, .inr (9, [.int (nI sh), .ref rO, .ref rU, .ref rT, .int rg, .ref rS, .ref rB, .ref rP, .ref rG, .long ab0, .long be0, .int mk, .ref rM, .int md, .ref rN, .ref rL, .ref rZ, .ref rE, .ref rI, .int hc, .ref rA, .ref rX, .int lnn, .ref rV, .ref rW, .int sl, .ref rC, .ref rF, .ref rQ, .ref rK, .ref rR, .ref rD]))] s.heap := hP.sub [0] rfl
    have hD9 : va_D A [(m0, .inr (9, [.int (nI sh), .ref rO, .ref rU, .ref rT, .int rg, .ref rS, .ref rB, .ref rP, .ref rG, .long ab0, .long be0, .int mk, .ref rM, .int md, .ref rN, .ref rL, .ref rZ, .ref rE, .ref rI, .int hc, .ref rA, .ref rX, .int lnn, .ref rV, .ref rW, .int sl, .ref rC, .ref rF, .ref rQ, .ref rK, .ref rR, .ref rD]))] := hD.sub [0] (by decide) rfl
    exact W.iret (v := (-1)) hx hb hr (fun t9 ht9 hW9 => ⟨⟨(-1), (), rfl, by first | exact (if_neg (fun h9 => c_13 h9.1)).symm | exact (if_neg (fun h9 => c_27 h9.2.1)).symm | exact (if_neg (fun h9 => c_41 h9.2.2)).symm, ⟨by rw [ht9]; exact hP9, hD9⟩⟩, hS.F ht9⟩) hS.2.2 dX9_shaft_45
  · have c_13 := fWi_1 c_13
    refine lv_iload_n hx hb dX9_shaft_16 rfl (lv_at hl 2 rfl) ?_
    refine lv_i2l (v := av.toInt64) hx hb dX9_shaft_17 (rfl) ?_
    refine lv_ldc2 (v := 5) hx hb hown (hts (.constantLong RX9 100 (5)) (by decide +kernel)) dX9_shaft_18 ?_
    refine lv_ldc2 (v := 200) hx hb hown (hts (.constantLong RX9 102 (200)) (by decide +kernel)) dX9_shaft_21 ?_
    refine rSi hE ⟨hx, hb, hml, hown, hts⟩ (c_X9_in l E av.toInt64 5 200 ) (va_cwS 3 hts gX9_shaft_X9_in rfl rfl rfl (by decide +kernel) ⟨Nat.le_of_ble_eq_true rfl, Nat.le_of_ble_eq_true rfl⟩) (hP.sub [] rfl) rfl hl.1 rfl (Nat.le_of_ble_eq_true rfl) dX9_shaft_24 ⟨(Nat.zero_le _), (Nat.zero_le _)⟩ ?_
    rw [show fIn av.toInt64 5 200 = fWi av 5 200 from fIn_c (rfl) (by decide) (by decide)]
    refine lv_if_eq (tgt := 44) hx hb dX9_shaft_27 (by decide) (fun c_27 => ?_) (fun c_27 => ?_)
    · have c_27 := fWi_0 c_27
      refine lv_iconst (v := (-1)) hx hb dX9_shaft_44 (by decide) ?_
      have hP9 : va_P E.1 vwCl [(m0, .inr (9, [.int (nI sh), .ref rO, .ref rU, .ref rT, .int rg, .ref rS, .ref rB, .ref rP, .ref rG, .long ab0, .long be0, .int mk, .ref rM, .int md, .ref rN, .ref rL, .ref rZ, .ref rE, .ref rI, .int hc, .ref rA, .ref rX, .int lnn, .ref rV, .ref rW, .int sl, .ref rC, .ref rF, .ref rQ, .ref rK, .ref rR, .ref rD]))] s.heap := hP.sub [0] rfl
      have hD9 : va_D A [(m0, .inr (9, [.int (nI sh), .ref rO, .ref rU, .ref rT, .int rg, .ref rS, .ref rB, .ref rP, .ref rG, .long ab0, .long be0, .int mk, .ref rM, .int md, .ref rN, .ref rL, .ref rZ, .ref rE, .ref rI, .int hc, .ref rA, .ref rX, .int lnn, .ref rV, .ref rW, .int sl, .ref rC, .ref rF, .ref rQ, .ref rK, .ref rR, .ref rD]))] := hD.sub [0] (by decide) rfl
      exact W.iret (v := (-1)) hx hb hr (fun t9 ht9 hW9 => ⟨⟨(-1), (), rfl, by first | exact (if_neg (fun h9 => c_13 h9.1)).symm | exact (if_neg (fun h9 => c_27 h9.2.1)).symm | exact (if_neg (fun h9 => c_41 h9.2.2)).symm, ⟨by rw [ht9]; exact hP9, hD9⟩⟩, hS.F ht9⟩) hS.2.2 dX9_shaft_45
    · have c_27 := fWi_1 c_27
      refine lv_iload_n hx hb dX9_shaft_30 rfl (lv_at hl 3 rfl) ?_
      refine lv_i2l (v := bv.toInt64) hx hb dX9_shaft_31 (rfl) ?_
      refine lv_ldc2 (v := 5) hx hb hown (hts (.constantLong RX9 100 (5)) (by decide +kernel)) dX9_shaft_32 ?_
      refine lv_ldc2 (v := 200) hx hb hown (hts (.constantLong RX9 102 (200)) (by decide +kernel)) dX9_shaft_35 ?_
      refine rSi hE ⟨hx, hb, hml, hown, hts⟩ (c_X9_in l E bv.toInt64 5 200 ) (va_cwS 3 hts gX9_shaft_X9_in rfl rfl rfl (by decide +kernel) ⟨Nat.le_of_ble_eq_true rfl, Nat.le_of_ble_eq_true rfl⟩) (hP.sub [] rfl) rfl hl.1 rfl (Nat.le_of_ble_eq_true rfl) dX9_shaft_38 ⟨(Nat.zero_le _), (Nat.zero_le _)⟩ ?_
      rw [show fIn bv.toInt64 5 200 = fWi bv 5 200 from fIn_c (rfl) (by decide) (by decide)]
      refine lv_if_ne (tgt := 46) hx hb dX9_shaft_41 (by decide) (fun c_41 => ?_) (fun c_41 => ?_)
      · have c_41 := fWi_1 c_41
        refine lv_aload_n hx hb dX9_shaft_46 rfl (lv_at hl 0 rfl) ?_
        refine va_get (D := E.1) (ci := 9) (v := .int (nI sh)) (C := RX9) (T := TX9) (N := 32) hx hb hts hinX9 hown hK hP 0 rfl rfl 0 (by decide) (hts (.fieldLink RX9 7 "WornRingsModel" "shafts" "I") (by decide +kernel)) (fun _ h9 => h9) rfl dX9_shaft_47 ?_
        refine lv_iconst (v := 4) hx hb dX9_shaft_50 (by decide) ?_
        refine lv_icmp_ne (tgt := 57) hx hb dX9_shaft_51 (by decide) (fun c_51 => by exfalso; have c_51 : ¬ sh = 4 := fun h9 => c_51 ((nI_eq (a := sh) (b := 4) (by omega) (by omega)).mpr h9); exact hno.elim (fun h9 => h9 ⟨c_13, c_27, c_41⟩) (fun h9 => by omega)) (fun c_51 => ?_)
        have c_51 : sh = 4 := (nI_eq (a := sh) (b := 4) (by omega) (by omega)).mp c_51
        refine lv_bipush (v := (-3)) hx hb dX9_shaft_54 (by decide) ?_
        have hP9 : va_P E.1 vwCl [(m0, .inr (9, [.int (nI sh), .ref rO, .ref rU, .ref rT, .int rg, .ref rS, .ref rB, .ref rP, .ref rG, .long ab0, .long be0, .int mk, .ref rM, .int md, .ref rN, .ref rL, .ref rZ, .ref rE, .ref rI, .int hc, .ref rA, .ref rX, .int lnn, .ref rV, .ref rW, .int sl, .ref rC, .ref rF, .ref rQ, .ref rK, .ref rR, .ref rD]))] s.heap := hP.sub [0] rfl
        have hD9 : va_D A [(m0, .inr (9, [.int (nI sh), .ref rO, .ref rU, .ref rT, .int rg, .ref rS, .ref rB, .ref rP, .ref rG, .long ab0, .long be0, .int mk, .ref rM, .int md, .ref rN, .ref rL, .ref rZ, .ref rE, .ref rI, .int hc, .ref rA, .ref rX, .int lnn, .ref rV, .ref rW, .int sl, .ref rC, .ref rF, .ref rQ, .ref rK, .ref rR, .ref rD]))] := hD.sub [0] (by decide) rfl
        exact W.iret (v := (-3)) hx hb hr (fun t9 ht9 hW9 => ⟨⟨(-3), (), rfl, (if_pos ⟨c_13, c_27, c_41⟩).symm, ⟨by rw [ht9]; exact hP9, hD9⟩⟩, hS.F ht9⟩) hS.2.2 dX9_shaft_56
      · have c_41 := fWi_0 c_41
        refine lv_iconst (v := (-1)) hx hb dX9_shaft_44 (by decide) ?_
        have hP9 : va_P E.1 vwCl [(m0, .inr (9, [.int (nI sh), .ref rO, .ref rU, .ref rT, .int rg, .ref rS, .ref rB, .ref rP, .ref rG, .long ab0, .long be0, .int mk, .ref rM, .int md, .ref rN, .ref rL, .ref rZ, .ref rE, .ref rI, .int hc, .ref rA, .ref rX, .int lnn, .ref rV, .ref rW, .int sl, .ref rC, .ref rF, .ref rQ, .ref rK, .ref rR, .ref rD]))] s.heap := hP.sub [0] rfl
        have hD9 : va_D A [(m0, .inr (9, [.int (nI sh), .ref rO, .ref rU, .ref rT, .int rg, .ref rS, .ref rB, .ref rP, .ref rG, .long ab0, .long be0, .int mk, .ref rM, .int md, .ref rN, .ref rL, .ref rZ, .ref rE, .ref rI, .int hc, .ref rA, .ref rX, .int lnn, .ref rV, .ref rW, .int sl, .ref rC, .ref rF, .ref rQ, .ref rK, .ref rR, .ref rD]))] := hD.sub [0] (by decide) rfl
        exact W.iret (v := (-1)) hx hb hr (fun t9 ht9 hW9 => ⟨⟨(-1), (), rfl, by first | exact (if_neg (fun h9 => c_13 h9.1)).symm | exact (if_neg (fun h9 => c_27 h9.2.1)).symm | exact (if_neg (fun h9 => c_41 h9.2.2)).symm, ⟨by rw [ht9]; exact hP9, hD9⟩⟩, hS.F ht9⟩) hS.2.2 dX9_shaft_45
set_option maxHeartbeats 1000000 in
set_option maxRecDepth 100000 in
theorem c_X9_shaft_yes (l : Launch) (E : EnvT) (sz : Nat) (m0 : Nat) (sh : Nat) (rO : Nat) (rU : Nat) (rT : Nat) (rg : Int32) (rS : Nat) (rB : Nat) (rP : Nat) (rG : Nat) (ab0 : Int64) (be0 : Int64) (mk : Int32) (rM : Nat) (md : Int32) (rN : Nat) (rL : Nat) (rZ : Nat) (rE : Nat) (rI : Nat) (hc : Int32) (rA : Nat) (rX : Nat) (lnn : Int32) (rV : Nat) (rW : Nat) (sl : Int32) (rC : Nat) (rF : Nat) (rQ : Nat) (rK : Nat) (rR : Nat) (rD : Nat) (U : Nat → Nat) (V : Nat → Nat) (Te : Nat → Nat) (y : Nat) (av : Nat) (bv : Nat) (hs1 : 1 ≤ sh) (hs4 : sh < 4) (hy : y < sh) (ha1 : 5 ≤ av) (ha2 : av ≤ 200) (hb1 : 5 ≤ bv) (hb2 : bv ≤ 200) (hU : ∀ i, i < sh → 0 < U i ∧ U i ≤ 200 ^ i) (hV : ∀ i, i < sh → 0 < V i ∧ V i ≤ 200 ^ i) : Met l yX9_shaft wsX9_shaft ({ frames := 1, cells := 0, slots := 0, locals := 30 }) (va_Pc [.ref m0, .int (nI y), .int (nI av), .int (nI bv)] (PW E [(m0, .inr (9, [.int (nI sh), .ref rO, .ref rU, .ref rT, .int rg, .ref rS, .ref rB, .ref rP, .ref rG, .long ab0, .long be0, .int mk, .ref rM, .int md, .ref rN, .ref rL, .ref rZ, .ref rE, .ref rI, .int hc, .ref rA, .ref rX, .int lnn, .ref rV, .ref rW, .int sl, .ref rC, .ref rF, .ref rQ, .ref rK, .ref rR, .ref rD])), (rO, .inl (E.2 2, 4, .inr (.inl (lA U)))), (rU, .inl (E.2 2, 4, .inr (.inl (lA V)))), (rT, .inl (E.2 1, 4, .inl (nA Te)))] sz)) (va_Qi (fun (r : Int32) (uu : Unit) => r = nI sh) (fun (uu : Unit) t => BW E (va_A [(m0, .inr (9, [.int (nI sh), .ref rO, .ref rU, .ref rT, .int rg, .ref rS, .ref rB, .ref rP, .ref rG, .long ab0, .long be0, .int mk, .ref rM, .int md, .ref rN, .ref rL, .ref rZ, .ref rE, .ref rI, .int hc, .ref rA, .ref rX, .int lnn, .ref rV, .ref rW, .int sl, .ref rC, .ref rF, .ref rQ, .ref rK, .ref rR, .ref rD])), (rO, .inl (E.2 2, 4, .inr (.inl (lA U)))), (rU, .inl (E.2 2, 4, .inr (.inl (lA V)))), (rT, .inl (E.2 1, 4, .inl (nA Te)))] sz) [(m0, .inr (9, [.int (nI (sh + 1)), .ref rO, .ref rU, .ref rT, .int rg, .ref rS, .ref rB, .ref rP, .ref rG, .long (lN (tA (U y * av) (V y * bv))), .long (lN (tB (U y * av) (V y * bv))), .int mk, .ref rM, .int md, .ref rN, .ref rL, .ref rZ, .ref rE, .ref rI, .int hc, .ref rA, .ref rX, .int lnn, .ref rV, .ref rW, .int sl, .ref rC, .ref rF, .ref rQ, .ref rK, .ref rR, .ref rD])), (rO, .inl (E.2 2, 4, .inr (.inl (lA (updN U sh (tA (U y * av) (V y * bv))))))), (rU, .inl (E.2 2, 4, .inr (.inl (lA (updN V sh (tB (U y * av) (V y * bv))))))), (rT, .inl (E.2 1, 4, .inl (nA (updN Te sh bv))))] t) (va_A [(m0, .inr (9, [.int (nI sh), .ref rO, .ref rU, .ref rT, .int rg, .ref rS, .ref rB, .ref rP, .ref rG, .long ab0, .long be0, .int mk, .ref rM, .int md, .ref rN, .ref rL, .ref rZ, .ref rE, .ref rI, .int hc, .ref rA, .ref rX, .int lnn, .ref rV, .ref rW, .int sl, .ref rC, .ref rF, .ref rQ, .ref rK, .ref rR, .ref rD])), (rO, .inl (E.2 2, 4, .inr (.inl (lA U)))), (rU, .inl (E.2 2, 4, .inr (.inl (lA V)))), (rT, .inl (E.2 1, 4, .inl (nA Te)))] sz)) 0 0 (va_A [(m0, .inr (9, [.int (nI sh), .ref rO, .ref rU, .ref rT, .int rg, .ref rS, .ref rB, .ref rP, .ref rG, .long ab0, .long be0, .int mk, .ref rM, .int md, .ref rN, .ref rL, .ref rZ, .ref rE, .ref rI, .int hc, .ref rA, .ref rX, .int lnn, .ref rV, .ref rW, .int sl, .ref rC, .ref rF, .ref rQ, .ref rK, .ref rR, .ref rD])), (rO, .inl (E.2 2, 4, .inr (.inl (lA U)))), (rU, .inl (E.2 2, 4, .inr (.inl (lA V)))), (rT, .inl (E.2 1, 4, .inl (nA Te)))] sz) := by
  refine Met.ofW (cc := cX9_shaft) (maxL := 4) (ret := (some .int)) (by decide +kernel) rfl ?_
  intro p e s m args below meth c s₁ B hml hv
  obtain ⟨rfl, hsz, hP, hE, hD0⟩ := hv
  have hx := B.exec
  have hb := B.bytes
  have hr := B.returns
  have hts := atoms_spec (ws := wsX9_shaft) B.pre
  have hown : s.vm.findClass RX9 = some m.cls := findClass_of_methodNamed B.named
  have hlocks := B.notSynchronized
  have hK := hE.1
  have hNN := hE.2.1
  have hinX9 : ∀ w ∈ wsX90, w ∈ wsX9_shaft := fun w h => List.mem_cons_of_mem _ (List.mem_append_right _ h)
  subst hsz
  have hD := hD0.self (sz := s.heap.size)
  generalize hAe : va_A [(m0, .inr (9, [.int (nI sh), .ref rO, .ref rU, .ref rT, .int rg, .ref rS, .ref rB, .ref rP, .ref rG, .long ab0, .long be0, .int mk, .ref rM, .int md, .ref rN, .ref rL, .ref rZ, .ref rE, .ref rI, .int hc, .ref rA, .ref rX, .int lnn, .ref rV, .ref rW, .int sl, .ref rC, .ref rF, .ref rQ, .ref rK, .ref rR, .ref rD])), (rO, .inl (E.2 2, 4, .inr (.inl (lA U)))), (rU, .inl (E.2 2, 4, .inr (.inl (lA V)))), (rT, .inl (E.2 1, 4, .inl (nA Te)))] s.heap.size = A at hD ⊢
  have hA : ∀ q : Nat, s.heap.size ≤ q → A q := fun q h => by rw [← hAe]; exact Or.inr h
  have hS : va_S A s.heap s.heap [] := va_S.rf
  have hl := lv_entry ([.ref m0, .int (nI y), .int (nI av), .int (nI bv)]) (n := 4) (Nat.le_of_ble_eq_true rfl)
  rw [lg_entry_eq]
  generalize (lg_sl ([.ref m0, .int (nI y), .int (nI av), .int (nI bv)]) ++ List.replicate (4 - (lg_sl ([.ref m0, .int (nI y), .int (nI av), .int (nI bv)])).length) Slot.unset).toArray = ls at hl ⊢
  have hl : lv_has ls 4 [(0, .ref m0), (1, .int (nI y)), (2, .int (nI av)), (3, .int (nI bv))] := hl
  obtain ⟨k1, k3⟩ := sh_bd hU hy ha1 ha2
  obtain ⟨k2, k4⟩ := sh_bd hV hy hb1 hb2
  have k5 := pw200 (i := sh) (by omega)
  refine lv_iload_n hx hb dX9_shaft_0 rfl (lv_at hl 1 rfl) ?_
  refine lv_i2l (v := lN y) hx hb dX9_shaft_1 (nI_l (by omega)) ?_
  refine lv_lconst (v := 0) hx hb dX9_shaft_2 (by decide) ?_
  refine lv_aload_n hx hb dX9_shaft_3 rfl (lv_at hl 0 rfl) ?_
  refine va_get (D := E.1) (ci := 9) (v := .int (nI sh)) (C := RX9) (T := TX9) (N := 32) hx hb hts hinX9 hown hK hP 0 rfl rfl 0 (by decide) (hts (.fieldLink RX9 7 "WornRingsModel" "shafts" "I") (by decide +kernel)) (fun _ h9 => h9) rfl dX9_shaft_4 ?_
  refine lv_iconst (v := 1) hx hb dX9_shaft_7 (by decide) ?_
  refine lv_isub hx hb dX9_shaft_8 ?_
  rw [show ((nI sh) - (1 : Int32) : Int32) = nI (sh - 1) from pk_sub (a := sh) (b := 1) (by omega)]
  refine lv_i2l (v := lN (sh - 1)) hx hb dX9_shaft_9 (nI_l (by omega)) ?_
  refine rSi hE ⟨hx, hb, hml, hown, hts⟩ (c_X9_in l E (lN y) 0 (lN (sh - 1)) ) (va_cwS 3 hts gX9_shaft_X9_in rfl rfl rfl (by decide +kernel) ⟨Nat.le_of_ble_eq_true rfl, Nat.le_of_ble_eq_true rfl⟩) (hP.sub [] rfl) rfl hl.1 rfl (Nat.le_of_ble_eq_true rfl) dX9_shaft_10 ⟨(Nat.zero_le _), (Nat.zero_le _)⟩ ?_
  rw [show fIn (lN y) 0 (lN (sh - 1)) = fWi (nI y) 0 (nI (sh - 1)) from fIn_c (nI_l (by omega)) (by decide) (nI_l (by omega))]
  refine lv_if_eq (tgt := 44) hx hb dX9_shaft_13 (by decide) (fun c_13 => by exfalso; have c_13 := fWi_0 c_13; exact c_13 ⟨nI_pos' (by omega), nI_le (by omega) (by omega)⟩) (fun c_13 => ?_)
  have c_13 := fWi_1 c_13
  refine lv_iload_n hx hb dX9_shaft_16 rfl (lv_at hl 2 rfl) ?_
  refine lv_i2l (v := lN av) hx hb dX9_shaft_17 (nI_l (by omega)) ?_
  refine lv_ldc2 (v := 5) hx hb hown (hts (.constantLong RX9 100 (5)) (by decide +kernel)) dX9_shaft_18 ?_
  refine lv_ldc2 (v := 200) hx hb hown (hts (.constantLong RX9 102 (200)) (by decide +kernel)) dX9_shaft_21 ?_
  refine rSi hE ⟨hx, hb, hml, hown, hts⟩ (c_X9_in l E (lN av) 5 200 ) (va_cwS 3 hts gX9_shaft_X9_in rfl rfl rfl (by decide +kernel) ⟨Nat.le_of_ble_eq_true rfl, Nat.le_of_ble_eq_true rfl⟩) (hP.sub [] rfl) rfl hl.1 rfl (Nat.le_of_ble_eq_true rfl) dX9_shaft_24 ⟨(Nat.zero_le _), (Nat.zero_le _)⟩ ?_
  rw [show fIn (lN av) 5 200 = fWi (nI av) 5 200 from fIn_c (nI_l (by omega)) (by decide) (by decide)]
  refine lv_if_eq (tgt := 44) hx hb dX9_shaft_27 (by decide) (fun c_27 => by exfalso; have c_27 := fWi_0 c_27; exact c_27 ⟨nI_le (a := 5) (by omega) (by omega), nI_le (b := 200) (by omega) (by omega)⟩) (fun c_27 => ?_)
  have c_27 := fWi_1 c_27
  refine lv_iload_n hx hb dX9_shaft_30 rfl (lv_at hl 3 rfl) ?_
  refine lv_i2l (v := lN bv) hx hb dX9_shaft_31 (nI_l (by omega)) ?_
  refine lv_ldc2 (v := 5) hx hb hown (hts (.constantLong RX9 100 (5)) (by decide +kernel)) dX9_shaft_32 ?_
  refine lv_ldc2 (v := 200) hx hb hown (hts (.constantLong RX9 102 (200)) (by decide +kernel)) dX9_shaft_35 ?_
  refine rSi hE ⟨hx, hb, hml, hown, hts⟩ (c_X9_in l E (lN bv) 5 200 ) (va_cwS 3 hts gX9_shaft_X9_in rfl rfl rfl (by decide +kernel) ⟨Nat.le_of_ble_eq_true rfl, Nat.le_of_ble_eq_true rfl⟩) (hP.sub [] rfl) rfl hl.1 rfl (Nat.le_of_ble_eq_true rfl) dX9_shaft_38 ⟨(Nat.zero_le _), (Nat.zero_le _)⟩ ?_
  rw [show fIn (lN bv) 5 200 = fWi (nI bv) 5 200 from fIn_c (nI_l (by omega)) (by decide) (by decide)]
  refine lv_if_ne (tgt := 46) hx hb dX9_shaft_41 (by decide) (fun c_41 => ?_) (fun c_41 => by exfalso; have c_41 := fWi_0 c_41; exact c_41 ⟨nI_le (a := 5) (by omega) (by omega), nI_le (b := 200) (by omega) (by omega)⟩)
  have c_41 := fWi_1 c_41
  refine lv_aload_n hx hb dX9_shaft_46 rfl (lv_at hl 0 rfl) ?_
  refine va_get (D := E.1) (ci := 9) (v := .int (nI sh)) (C := RX9) (T := TX9) (N := 32) hx hb hts hinX9 hown hK hP 0 rfl rfl 0 (by decide) (hts (.fieldLink RX9 7 "WornRingsModel" "shafts" "I") (by decide +kernel)) (fun _ h9 => h9) rfl dX9_shaft_47 ?_
  refine lv_iconst (v := 4) hx hb dX9_shaft_50 (by decide) ?_
  refine lv_icmp_ne (tgt := 57) hx hb dX9_shaft_51 (by decide) (fun c_51 => ?_) (fun c_51 => by exfalso; have c_51 : sh = 4 := (nI_eq (a := sh) (b := 4) (by omega) (by omega)).mp c_51; omega)
  have c_51 : ¬ sh = 4 := fun h9 => c_51 ((nI_eq (a := sh) (b := 4) (by omega) (by omega)).mpr h9)
  refine lv_aload_n hx hb dX9_shaft_57 rfl (lv_at hl 0 rfl) ?_
  refine lv_aload_n hx hb dX9_shaft_58 rfl (lv_at hl 0 rfl) ?_
  refine va_get (D := E.1) (ci := 9) (v := .ref rO) (C := RX9) (T := TX9) (N := 32) hx hb hts hinX9 hown hK hP 0 rfl rfl 1 (by decide) (hts (.fieldLink RX9 13 "WornRingsModel" "over" "[J") (by decide +kernel)) (fun _ h9 => h9) rfl dX9_shaft_59 ?_
  refine lv_iload_n hx hb dX9_shaft_62 rfl (lv_at hl 1 rfl) ?_
  refine va_lald hx hb hK hP 1 2 rfl rfl (vp_in_nI (by omega) (by omega)) dX9_shaft_63 ?_
  rw [nI_clamp (n := y) (by omega)]
  refine W.eq (g2 := F0 m 64 ls [.long (lN (U y)), .ref m0]) rfl ?_
  refine lv_iload_n hx hb dX9_shaft_64 rfl (lv_at hl 2 rfl) ?_
  refine lv_i2l (v := lN av) hx hb dX9_shaft_65 (nI_l (by omega)) ?_
  refine lv_lmul hx hb dX9_shaft_66 ?_
  rw [show ((lN (U y)) * (lN av) : Int64) = lN ((U y) * av) from lN_mul (U y) av]
  refine lv_aload_n hx hb dX9_shaft_67 rfl (lv_at hl 0 rfl) ?_
  refine va_get (D := E.1) (ci := 9) (v := .ref rU) (C := RX9) (T := TX9) (N := 32) hx hb hts hinX9 hown hK hP 0 rfl rfl 2 (by decide) (hts (.fieldLink RX9 17 "WornRingsModel" "under" "[J") (by decide +kernel)) (fun _ h9 => h9) rfl dX9_shaft_68 ?_
  refine lv_iload_n hx hb dX9_shaft_71 rfl (lv_at hl 1 rfl) ?_
  refine va_lald hx hb hK hP 2 2 rfl rfl (vp_in_nI (by omega) (by omega)) dX9_shaft_72 ?_
  rw [nI_clamp (n := y) (by omega)]
  refine W.eq (g2 := F0 m 73 ls [.long (lN (V y)), .long (lN ((U y) * av)), .ref m0]) rfl ?_
  refine lv_iload_n hx hb dX9_shaft_73 rfl (lv_at hl 3 rfl) ?_
  refine lv_i2l (v := lN bv) hx hb dX9_shaft_74 (nI_l (by omega)) ?_
  refine lv_lmul hx hb dX9_shaft_75 ?_
  rw [show ((lN (V y)) * (lN bv) : Int64) = lN ((V y) * bv) from lN_mul (V y) bv]
  refine wVv (wr := [(rO, .inl (E.2 2, 4, .inr (.inl (lA U)))), (rU, .inl (E.2 2, 4, .inr (.inl (lA V)))), (rT, .inl (E.2 1, 4, .inl (nA Te)))]) hE ⟨hx, hb, hml, hown, hts⟩ (c_X9_reduce l E s.heap.size m0 (nI sh) rO rU rT rg rS rB rP rG ab0 be0 mk rM md rN rL rZ rE rI hc rA rX lnn rV rW sl rC rF rQ rK rR rD ((U y) * av) ((V y) * bv) (k1) (by omega) (k2) (by omega)) (cwV 2 hts gX9_shaft_X9_reduce rfl rfl rfl (by decide +kernel) ⟨Nat.le_of_ble_eq_true rfl, Nat.le_of_ble_eq_true rfl⟩) hP hD hS hA [0] [1, 2, 3] rfl rfl (by decide) (by decide) (by decide) 0 9 rfl rfl rfl hl.1 rfl (Nat.le_of_ble_eq_true rfl) dX9_shaft_76 ⟨(Nat.zero_le _), (Nat.zero_le _)⟩ (fun u H locs hw hP hD hS => ?_)
  have hP : va_P E.1 vwCl [(rO, .inl (E.2 2, 4, .inr (.inl (lA U)))), (rU, .inl (E.2 2, 4, .inr (.inl (lA V)))), (rT, .inl (E.2 1, 4, .inl (nA Te))), (m0, .inr (9, [.int (nI sh), .ref rO, .ref rU, .ref rT, .int rg, .ref rS, .ref rB, .ref rP, .ref rG, .long (lN (tA ((U y) * av) ((V y) * bv))), .long (lN (tB ((U y) * av) ((V y) * bv))), .int mk, .ref rM, .int md, .ref rN, .ref rL, .ref rZ, .ref rE, .ref rI, .int hc, .ref rA, .ref rX, .int lnn, .ref rV, .ref rW, .int sl, .ref rC, .ref rF, .ref rQ, .ref rK, .ref rR, .ref rD]))] H := hP
  have hD : va_D A [(rO, .inl (E.2 2, 4, .inr (.inl (lA U)))), (rU, .inl (E.2 2, 4, .inr (.inl (lA V)))), (rT, .inl (E.2 1, 4, .inl (nA Te))), (m0, .inr (9, [.int (nI sh), .ref rO, .ref rU, .ref rT, .int rg, .ref rS, .ref rB, .ref rP, .ref rG, .long (lN (tA ((U y) * av) ((V y) * bv))), .long (lN (tB ((U y) * av) ((V y) * bv))), .int mk, .ref rM, .int md, .ref rN, .ref rL, .ref rZ, .ref rE, .ref rI, .int hc, .ref rA, .ref rX, .int lnn, .ref rV, .ref rW, .int sl, .ref rC, .ref rF, .ref rQ, .ref rK, .ref rR, .ref rD]))] := hD
  refine lv_aload_n hx hb dX9_shaft_79 rfl (lv_at hl 0 rfl) ?_
  refine va_get (D := E.1) (ci := 9) (v := .ref rO) (C := RX9) (T := TX9) (N := 32) hx hb hts hinX9 hown hK hP 3 rfl rfl 1 (by decide) (hts (.fieldLink RX9 13 "WornRingsModel" "over" "[J") (by decide +kernel)) (fun _ h9 => h9) rfl dX9_shaft_80 ?_
  refine lv_aload_n hx hb dX9_shaft_83 rfl (lv_at hl 0 rfl) ?_
  refine va_get (D := E.1) (ci := 9) (v := .int (nI sh)) (C := RX9) (T := TX9) (N := 32) hx hb hts hinX9 hown hK hP 3 rfl rfl 0 (by decide) (hts (.fieldLink RX9 7 "WornRingsModel" "shafts" "I") (by decide +kernel)) (fun _ h9 => h9) rfl dX9_shaft_84 ?_
  refine lv_aload_n hx hb dX9_shaft_87 rfl (lv_at hl 0 rfl) ?_
  refine va_get (D := E.1) (ci := 9) (v := .long (lN (tA ((U y) * av) ((V y) * bv)))) (C := RX9) (T := TX9) (N := 32) hx hb hts hinX9 hown hK hP 3 rfl rfl 9 (by decide) (hts (.fieldLink RX9 89 "WornRingsModel" "above" "J") (by decide +kernel)) (fun _ h9 => h9) rfl dX9_shaft_88 ?_
  refine va_last hx hb hK hP hD hS 0 2 rfl rfl (vp_in_nI (by omega) (by omega)) dX9_shaft_91 (fun H locs hP hD hS => ?_)
  rw [nI_clamp (n := sh) (by omega)] at hP hD
  rw [show vp_updL (lA U) sh (lN (tA ((U y) * av) ((V y) * bv))) = lA (updN U sh (tA ((U y) * av) ((V y) * bv))) from upd_lA _ _ _] at hP hD
  have hP : va_P E.1 vwCl [(rO, .inl (E.2 2, 4, .inr (.inl (lA (updN U sh (tA ((U y) * av) ((V y) * bv))))))), (rU, .inl (E.2 2, 4, .inr (.inl (lA V)))), (rT, .inl (E.2 1, 4, .inl (nA Te))), (m0, .inr (9, [.int (nI sh), .ref rO, .ref rU, .ref rT, .int rg, .ref rS, .ref rB, .ref rP, .ref rG, .long (lN (tA ((U y) * av) ((V y) * bv))), .long (lN (tB ((U y) * av) ((V y) * bv))), .int mk, .ref rM, .int md, .ref rN, .ref rL, .ref rZ, .ref rE, .ref rI, .int hc, .ref rA, .ref rX, .int lnn, .ref rV, .ref rW, .int sl, .ref rC, .ref rF, .ref rQ, .ref rK, .ref rR, .ref rD]))] H := hP
  have hD : va_D A [(rO, .inl (E.2 2, 4, .inr (.inl (lA (updN U sh (tA ((U y) * av) ((V y) * bv))))))), (rU, .inl (E.2 2, 4, .inr (.inl (lA V)))), (rT, .inl (E.2 1, 4, .inl (nA Te))), (m0, .inr (9, [.int (nI sh), .ref rO, .ref rU, .ref rT, .int rg, .ref rS, .ref rB, .ref rP, .ref rG, .long (lN (tA ((U y) * av) ((V y) * bv))), .long (lN (tB ((U y) * av) ((V y) * bv))), .int mk, .ref rM, .int md, .ref rN, .ref rL, .ref rZ, .ref rE, .ref rI, .int hc, .ref rA, .ref rX, .int lnn, .ref rV, .ref rW, .int sl, .ref rC, .ref rF, .ref rQ, .ref rK, .ref rR, .ref rD]))] := hD
  refine lv_aload_n hx hb dX9_shaft_92 rfl (lv_at hl 0 rfl) ?_
  refine va_get (D := E.1) (ci := 9) (v := .ref rU) (C := RX9) (T := TX9) (N := 32) hx hb hts hinX9 hown hK hP 3 rfl rfl 2 (by decide) (hts (.fieldLink RX9 17 "WornRingsModel" "under" "[J") (by decide +kernel)) (fun _ h9 => h9) rfl dX9_shaft_93 ?_
  refine lv_aload_n hx hb dX9_shaft_96 rfl (lv_at hl 0 rfl) ?_
  refine va_get (D := E.1) (ci := 9) (v := .int (nI sh)) (C := RX9) (T := TX9) (N := 32) hx hb hts hinX9 hown hK hP 3 rfl rfl 0 (by decide) (hts (.fieldLink RX9 7 "WornRingsModel" "shafts" "I") (by decide +kernel)) (fun _ h9 => h9) rfl dX9_shaft_97 ?_
  refine lv_aload_n hx hb dX9_shaft_100 rfl (lv_at hl 0 rfl) ?_
  refine va_get (D := E.1) (ci := 9) (v := .long (lN (tB ((U y) * av) ((V y) * bv)))) (C := RX9) (T := TX9) (N := 32) hx hb hts hinX9 hown hK hP 3 rfl rfl 10 (by decide) (hts (.fieldLink RX9 93 "WornRingsModel" "below" "J") (by decide +kernel)) (fun _ h9 => h9) rfl dX9_shaft_101 ?_
  refine va_last hx hb hK hP hD hS 1 2 rfl rfl (vp_in_nI (by omega) (by omega)) dX9_shaft_104 (fun H locs hP hD hS => ?_)
  rw [nI_clamp (n := sh) (by omega)] at hP hD
  rw [show vp_updL (lA V) sh (lN (tB ((U y) * av) ((V y) * bv))) = lA (updN V sh (tB ((U y) * av) ((V y) * bv))) from upd_lA _ _ _] at hP hD
  have hP : va_P E.1 vwCl [(rO, .inl (E.2 2, 4, .inr (.inl (lA (updN U sh (tA ((U y) * av) ((V y) * bv))))))), (rU, .inl (E.2 2, 4, .inr (.inl (lA (updN V sh (tB ((U y) * av) ((V y) * bv))))))), (rT, .inl (E.2 1, 4, .inl (nA Te))), (m0, .inr (9, [.int (nI sh), .ref rO, .ref rU, .ref rT, .int rg, .ref rS, .ref rB, .ref rP, .ref rG, .long (lN (tA ((U y) * av) ((V y) * bv))), .long (lN (tB ((U y) * av) ((V y) * bv))), .int mk, .ref rM, .int md, .ref rN, .ref rL, .ref rZ, .ref rE, .ref rI, .int hc, .ref rA, .ref rX, .int lnn, .ref rV, .ref rW, .int sl, .ref rC, .ref rF, .ref rQ, .ref rK, .ref rR, .ref rD]))] H := hP
  have hD : va_D A [(rO, .inl (E.2 2, 4, .inr (.inl (lA (updN U sh (tA ((U y) * av) ((V y) * bv))))))), (rU, .inl (E.2 2, 4, .inr (.inl (lA (updN V sh (tB ((U y) * av) ((V y) * bv))))))), (rT, .inl (E.2 1, 4, .inl (nA Te))), (m0, .inr (9, [.int (nI sh), .ref rO, .ref rU, .ref rT, .int rg, .ref rS, .ref rB, .ref rP, .ref rG, .long (lN (tA ((U y) * av) ((V y) * bv))), .long (lN (tB ((U y) * av) ((V y) * bv))), .int mk, .ref rM, .int md, .ref rN, .ref rL, .ref rZ, .ref rE, .ref rI, .int hc, .ref rA, .ref rX, .int lnn, .ref rV, .ref rW, .int sl, .ref rC, .ref rF, .ref rQ, .ref rK, .ref rR, .ref rD]))] := hD
  refine lv_aload_n hx hb dX9_shaft_105 rfl (lv_at hl 0 rfl) ?_
  refine va_get (D := E.1) (ci := 9) (v := .ref rT) (C := RX9) (T := TX9) (N := 32) hx hb hts hinX9 hown hK hP 3 rfl rfl 3 (by decide) (hts (.fieldLink RX9 20 "WornRingsModel" "teeth" "[I") (by decide +kernel)) (fun _ h9 => h9) rfl dX9_shaft_106 ?_
  refine lv_aload_n hx hb dX9_shaft_109 rfl (lv_at hl 0 rfl) ?_
  refine va_get (D := E.1) (ci := 9) (v := .int (nI sh)) (C := RX9) (T := TX9) (N := 32) hx hb hts hinX9 hown hK hP 3 rfl rfl 0 (by decide) (hts (.fieldLink RX9 7 "WornRingsModel" "shafts" "I") (by decide +kernel)) (fun _ h9 => h9) rfl dX9_shaft_110 ?_
  refine lv_iload_n hx hb dX9_shaft_113 rfl (lv_at hl 3 rfl) ?_
  refine va_iast hx hb hK hP hD hS 2 1 rfl rfl (vp_in_nI (by omega) (by omega)) dX9_shaft_114 (fun H locs hP hD hS => ?_)
  rw [nI_clamp (n := sh) (by omega)] at hP hD
  rw [show upd (nA Te) sh (nI bv) = nA (updN Te sh bv) from upd_nA _ _ _] at hP hD
  have hP : va_P E.1 vwCl [(rO, .inl (E.2 2, 4, .inr (.inl (lA (updN U sh (tA ((U y) * av) ((V y) * bv))))))), (rU, .inl (E.2 2, 4, .inr (.inl (lA (updN V sh (tB ((U y) * av) ((V y) * bv))))))), (rT, .inl (E.2 1, 4, .inl (nA (updN Te sh bv)))), (m0, .inr (9, [.int (nI sh), .ref rO, .ref rU, .ref rT, .int rg, .ref rS, .ref rB, .ref rP, .ref rG, .long (lN (tA ((U y) * av) ((V y) * bv))), .long (lN (tB ((U y) * av) ((V y) * bv))), .int mk, .ref rM, .int md, .ref rN, .ref rL, .ref rZ, .ref rE, .ref rI, .int hc, .ref rA, .ref rX, .int lnn, .ref rV, .ref rW, .int sl, .ref rC, .ref rF, .ref rQ, .ref rK, .ref rR, .ref rD]))] H := hP
  have hD : va_D A [(rO, .inl (E.2 2, 4, .inr (.inl (lA (updN U sh (tA ((U y) * av) ((V y) * bv))))))), (rU, .inl (E.2 2, 4, .inr (.inl (lA (updN V sh (tB ((U y) * av) ((V y) * bv))))))), (rT, .inl (E.2 1, 4, .inl (nA (updN Te sh bv)))), (m0, .inr (9, [.int (nI sh), .ref rO, .ref rU, .ref rT, .int rg, .ref rS, .ref rB, .ref rP, .ref rG, .long (lN (tA ((U y) * av) ((V y) * bv))), .long (lN (tB ((U y) * av) ((V y) * bv))), .int mk, .ref rM, .int md, .ref rN, .ref rL, .ref rZ, .ref rE, .ref rI, .int hc, .ref rA, .ref rX, .int lnn, .ref rV, .ref rW, .int sl, .ref rC, .ref rF, .ref rQ, .ref rK, .ref rR, .ref rD]))] := hD
  refine lv_aload_n hx hb dX9_shaft_115 rfl (lv_at hl 0 rfl) ?_
  refine lv_dup hx hb dX9_shaft_116 rfl ?_
  refine va_get (D := E.1) (ci := 9) (v := .int (nI sh)) (C := RX9) (T := TX9) (N := 32) hx hb hts hinX9 hown hK hP 3 rfl rfl 0 (by decide) (hts (.fieldLink RX9 7 "WornRingsModel" "shafts" "I") (by decide +kernel)) (fun _ h9 => h9) rfl dX9_shaft_117 ?_
  refine lv_iconst (v := 1) hx hb dX9_shaft_120 (by decide) ?_
  refine lv_iadd hx hb dX9_shaft_121 ?_
  rw [show ((nI sh) + (1 : Int32) : Int32) = nI (sh + 1) from nI_add sh 1]
  refine va_put (D := E.1) (ci := 9) (v := .int (nI (sh + 1))) (ty := .int) (C := RX9) (T := TX9) (N := 32) hx hb hts hinX9 tyX9 tyX9_ok nmX9 hown hK hP hD hS 3 rfl rfl 0 (by decide) (hts (.fieldLink RX9 7 "WornRingsModel" "shafts" "I") (by decide +kernel)) (fun _ h9 => h9) rfl (by decide +kernel) (rfl) (rfl) (Nat.le_of_ble_eq_true rfl) dX9_shaft_122 (fun H locs hP hD hS => ?_)
  have hP : va_P E.1 vwCl [(rO, .inl (E.2 2, 4, .inr (.inl (lA (updN U sh (tA ((U y) * av) ((V y) * bv))))))), (rU, .inl (E.2 2, 4, .inr (.inl (lA (updN V sh (tB ((U y) * av) ((V y) * bv))))))), (rT, .inl (E.2 1, 4, .inl (nA (updN Te sh bv)))), (m0, .inr (9, [.int (nI (sh + 1)), .ref rO, .ref rU, .ref rT, .int rg, .ref rS, .ref rB, .ref rP, .ref rG, .long (lN (tA ((U y) * av) ((V y) * bv))), .long (lN (tB ((U y) * av) ((V y) * bv))), .int mk, .ref rM, .int md, .ref rN, .ref rL, .ref rZ, .ref rE, .ref rI, .int hc, .ref rA, .ref rX, .int lnn, .ref rV, .ref rW, .int sl, .ref rC, .ref rF, .ref rQ, .ref rK, .ref rR, .ref rD]))] H := hP
  have hD : va_D A [(rO, .inl (E.2 2, 4, .inr (.inl (lA (updN U sh (tA ((U y) * av) ((V y) * bv))))))), (rU, .inl (E.2 2, 4, .inr (.inl (lA (updN V sh (tB ((U y) * av) ((V y) * bv))))))), (rT, .inl (E.2 1, 4, .inl (nA (updN Te sh bv)))), (m0, .inr (9, [.int (nI (sh + 1)), .ref rO, .ref rU, .ref rT, .int rg, .ref rS, .ref rB, .ref rP, .ref rG, .long (lN (tA ((U y) * av) ((V y) * bv))), .long (lN (tB ((U y) * av) ((V y) * bv))), .int mk, .ref rM, .int md, .ref rN, .ref rL, .ref rZ, .ref rE, .ref rI, .int hc, .ref rA, .ref rX, .int lnn, .ref rV, .ref rW, .int sl, .ref rC, .ref rF, .ref rQ, .ref rK, .ref rR, .ref rD]))] := hD
  refine lv_aload_n hx hb dX9_shaft_125 rfl (lv_at hl 0 rfl) ?_
  refine va_get (D := E.1) (ci := 9) (v := .int (nI (sh + 1))) (C := RX9) (T := TX9) (N := 32) hx hb hts hinX9 hown hK hP 3 rfl rfl 0 (by decide) (hts (.fieldLink RX9 7 "WornRingsModel" "shafts" "I") (by decide +kernel)) (fun _ h9 => h9) rfl dX9_shaft_126 ?_
  refine lv_iconst (v := 1) hx hb dX9_shaft_129 (by decide) ?_
  refine lv_isub hx hb dX9_shaft_130 ?_
  rw [show ((nI (sh + 1)) - (1 : Int32) : Int32) = nI ((sh + 1) - 1) from pk_sub (a := (sh + 1)) (b := 1) (by omega)]
  have e9 : ([(m0, .inr (9, [.int (nI (sh + 1)), .ref rO, .ref rU, .ref rT, .int rg, .ref rS, .ref rB, .ref rP, .ref rG, .long (lN (tA (U y * av) (V y * bv))), .long (lN (tB (U y * av) (V y * bv))), .int mk, .ref rM, .int md, .ref rN, .ref rL, .ref rZ, .ref rE, .ref rI, .int hc, .ref rA, .ref rX, .int lnn, .ref rV, .ref rW, .int sl, .ref rC, .ref rF, .ref rQ, .ref rK, .ref rR, .ref rD])), (rO, .inl (E.2 2, 4, .inr (.inl (lA (updN U sh (tA (U y * av) (V y * bv))))))), (rU, .inl (E.2 2, 4, .inr (.inl (lA (updN V sh (tB (U y * av) (V y * bv))))))), (rT, .inl (E.2 1, 4, .inl (nA (updN Te sh bv))))] : va_W) = [(m0, .inr (9, [.int (nI (sh + 1)), .ref rO, .ref rU, .ref rT, .int rg, .ref rS, .ref rB, .ref rP, .ref rG, .long (lN (tA ((U y) * av) ((V y) * bv))), .long (lN (tB ((U y) * av) ((V y) * bv))), .int mk, .ref rM, .int md, .ref rN, .ref rL, .ref rZ, .ref rE, .ref rI, .int hc, .ref rA, .ref rX, .int lnn, .ref rV, .ref rW, .int sl, .ref rC, .ref rF, .ref rQ, .ref rK, .ref rR, .ref rD])), (rO, .inl (E.2 2, 4, .inr (.inl (lA (updN U sh (tA ((U y) * av) ((V y) * bv))))))), (rU, .inl (E.2 2, 4, .inr (.inl (lA (updN V sh (tB ((U y) * av) ((V y) * bv))))))), (rT, .inl (E.2 1, 4, .inl (nA (updN Te sh bv))))] := by rfl
  have hP9 : va_P E.1 vwCl [(m0, .inr (9, [.int (nI (sh + 1)), .ref rO, .ref rU, .ref rT, .int rg, .ref rS, .ref rB, .ref rP, .ref rG, .long (lN (tA (U y * av) (V y * bv))), .long (lN (tB (U y * av) (V y * bv))), .int mk, .ref rM, .int md, .ref rN, .ref rL, .ref rZ, .ref rE, .ref rI, .int hc, .ref rA, .ref rX, .int lnn, .ref rV, .ref rW, .int sl, .ref rC, .ref rF, .ref rQ, .ref rK, .ref rR, .ref rD])), (rO, .inl (E.2 2, 4, .inr (.inl (lA (updN U sh (tA (U y * av) (V y * bv))))))), (rU, .inl (E.2 2, 4, .inr (.inl (lA (updN V sh (tB (U y * av) (V y * bv))))))), (rT, .inl (E.2 1, 4, .inl (nA (updN Te sh bv))))] H := by rw [e9]; exact hP.sub [3, 0, 1, 2] rfl
  have hD9 : va_D A [(m0, .inr (9, [.int (nI (sh + 1)), .ref rO, .ref rU, .ref rT, .int rg, .ref rS, .ref rB, .ref rP, .ref rG, .long (lN (tA (U y * av) (V y * bv))), .long (lN (tB (U y * av) (V y * bv))), .int mk, .ref rM, .int md, .ref rN, .ref rL, .ref rZ, .ref rE, .ref rI, .int hc, .ref rA, .ref rX, .int lnn, .ref rV, .ref rW, .int sl, .ref rC, .ref rF, .ref rQ, .ref rK, .ref rR, .ref rD])), (rO, .inl (E.2 2, 4, .inr (.inl (lA (updN U sh (tA (U y * av) (V y * bv))))))), (rU, .inl (E.2 2, 4, .inr (.inl (lA (updN V sh (tB (U y * av) (V y * bv))))))), (rT, .inl (E.2 1, 4, .inl (nA (updN Te sh bv))))] := by rw [e9]; exact hD.sub [3, 0, 1, 2] (by decide) rfl
  exact W.iret (v := nI ((sh + 1) - 1)) hx hb hr (fun t9 ht9 hW9 => ⟨⟨nI ((sh + 1) - 1), (), rfl, rfl, ⟨by rw [ht9]; exact hP9, hD9⟩⟩, hS.F ht9⟩) hS.2.2 dX9_shaft_131
set_option maxHeartbeats 1000000 in
set_option maxRecDepth 100000 in
theorem c_X9_ring_no (l : Launch) (E : EnvT) (sz : Nat) (m0 : Nat) (sh : Nat) (rO : Nat) (rU : Nat) (rT : Nat) (rg : Nat) (rS : Nat) (rB : Nat) (rP : Nat) (rG : Nat) (ab0 : Int64) (be0 : Int64) (mk : Int32) (rM : Nat) (md : Int32) (rN : Nat) (rL : Nat) (rZ : Nat) (rE : Nat) (rI : Nat) (hc : Int32) (rA : Nat) (rX : Nat) (lnn : Int32) (rV : Nat) (rW : Nat) (sl : Int32) (rC : Nat) (rF : Nat) (rQ : Nat) (rK : Nat) (rR : Nat) (rD : Nat) (yy : Int32) (bl : Int32) (pp : Int32) (qq : Int32) (hs1 : 1 ≤ sh) (hs4 : sh ≤ 4) (hr8 : rg ≤ 8) (hno : ¬ ((0 ≤ yy ∧ yy ≤ nI (sh - 1)) ∧ (3 ≤ bl ∧ bl ≤ 30) ∧ (1 ≤ pp ∧ pp ≤ qq - 1) ∧ (1 ≤ qq ∧ qq ≤ 100)) ∨ 8 ≤ rg) : Met l yX9_ring wsX9_ring ({ frames := 1, cells := 0, slots := 0, locals := 25 }) (va_Pc [.ref m0, .int yy, .int bl, .int pp, .int qq] (PW E [(m0, .inr (9, [.int (nI sh), .ref rO, .ref rU, .ref rT, .int (nI rg), .ref rS, .ref rB, .ref rP, .ref rG, .long ab0, .long be0, .int mk, .ref rM, .int md, .ref rN, .ref rL, .ref rZ, .ref rE, .ref rI, .int hc, .ref rA, .ref rX, .int lnn, .ref rV, .ref rW, .int sl, .ref rC, .ref rF, .ref rQ, .ref rK, .ref rR, .ref rD]))] sz)) (va_Qi (fun (r : Int32) (uu : Unit) => r = if (0 ≤ yy ∧ yy ≤ nI (sh - 1)) ∧ (3 ≤ bl ∧ bl ≤ 30) ∧ (1 ≤ pp ∧ pp ≤ qq - 1) ∧ (1 ≤ qq ∧ qq ≤ 100) then -3 else -1) (fun (uu : Unit) t => BW E (va_A [(m0, .inr (9, [.int (nI sh), .ref rO, .ref rU, .ref rT, .int (nI rg), .ref rS, .ref rB, .ref rP, .ref rG, .long ab0, .long be0, .int mk, .ref rM, .int md, .ref rN, .ref rL, .ref rZ, .ref rE, .ref rI, .int hc, .ref rA, .ref rX, .int lnn, .ref rV, .ref rW, .int sl, .ref rC, .ref rF, .ref rQ, .ref rK, .ref rR, .ref rD]))] sz) [(m0, .inr (9, [.int (nI sh), .ref rO, .ref rU, .ref rT, .int (nI rg), .ref rS, .ref rB, .ref rP, .ref rG, .long ab0, .long be0, .int mk, .ref rM, .int md, .ref rN, .ref rL, .ref rZ, .ref rE, .ref rI, .int hc, .ref rA, .ref rX, .int lnn, .ref rV, .ref rW, .int sl, .ref rC, .ref rF, .ref rQ, .ref rK, .ref rR, .ref rD]))] t) (va_A [(m0, .inr (9, [.int (nI sh), .ref rO, .ref rU, .ref rT, .int (nI rg), .ref rS, .ref rB, .ref rP, .ref rG, .long ab0, .long be0, .int mk, .ref rM, .int md, .ref rN, .ref rL, .ref rZ, .ref rE, .ref rI, .int hc, .ref rA, .ref rX, .int lnn, .ref rV, .ref rW, .int sl, .ref rC, .ref rF, .ref rQ, .ref rK, .ref rR, .ref rD]))] sz)) 0 0 (va_A [(m0, .inr (9, [.int (nI sh), .ref rO, .ref rU, .ref rT, .int (nI rg), .ref rS, .ref rB, .ref rP, .ref rG, .long ab0, .long be0, .int mk, .ref rM, .int md, .ref rN, .ref rL, .ref rZ, .ref rE, .ref rI, .int hc, .ref rA, .ref rX, .int lnn, .ref rV, .ref rW, .int sl, .ref rC, .ref rF, .ref rQ, .ref rK, .ref rR, .ref rD]))] sz) := by
  refine Met.ofW (cc := cX9_ring) (maxL := 5) (ret := (some .int)) (by decide +kernel) rfl ?_
  intro p e s m args below meth c s₁ B hml hv
  obtain ⟨rfl, hsz, hP, hE, hD0⟩ := hv
  have hx := B.exec
  have hb := B.bytes
  have hr := B.returns
  have hts := atoms_spec (ws := wsX9_ring) B.pre
  have hown : s.vm.findClass RX9 = some m.cls := findClass_of_methodNamed B.named
  have hlocks := B.notSynchronized
  have hK := hE.1
  have hNN := hE.2.1
  have hinX9 : ∀ w ∈ wsX90, w ∈ wsX9_ring := fun w h => List.mem_cons_of_mem _ (List.mem_append_right _ h)
  subst hsz
  have hD := hD0.self (sz := s.heap.size)
  generalize hAe : va_A [(m0, .inr (9, [.int (nI sh), .ref rO, .ref rU, .ref rT, .int (nI rg), .ref rS, .ref rB, .ref rP, .ref rG, .long ab0, .long be0, .int mk, .ref rM, .int md, .ref rN, .ref rL, .ref rZ, .ref rE, .ref rI, .int hc, .ref rA, .ref rX, .int lnn, .ref rV, .ref rW, .int sl, .ref rC, .ref rF, .ref rQ, .ref rK, .ref rR, .ref rD]))] s.heap.size = A at hD ⊢
  have hA : ∀ q : Nat, s.heap.size ≤ q → A q := fun q h => by rw [← hAe]; exact Or.inr h
  have hS : va_S A s.heap s.heap [] := va_S.rf
  have hl := lv_entry ([.ref m0, .int yy, .int bl, .int pp, .int qq]) (n := 5) (Nat.le_of_ble_eq_true rfl)
  rw [lg_entry_eq]
  generalize (lg_sl ([.ref m0, .int yy, .int bl, .int pp, .int qq]) ++ List.replicate (5 - (lg_sl ([.ref m0, .int yy, .int bl, .int pp, .int qq])).length) Slot.unset).toArray = ls at hl ⊢
  have hl : lv_has ls 5 [(0, .ref m0), (1, .int yy), (2, .int bl), (3, .int pp), (4, .int qq)] := hl
  refine lv_iload_n hx hb dX9_ring_0 rfl (lv_at hl 1 rfl) ?_
  refine lv_i2l (v := yy.toInt64) hx hb dX9_ring_1 (rfl) ?_
  refine lv_lconst (v := 0) hx hb dX9_ring_2 (by decide) ?_
  refine lv_aload_n hx hb dX9_ring_3 rfl (lv_at hl 0 rfl) ?_
  refine va_get (D := E.1) (ci := 9) (v := .int (nI sh)) (C := RX9) (T := TX9) (N := 32) hx hb hts hinX9 hown hK hP 0 rfl rfl 0 (by decide) (hts (.fieldLink RX9 7 "WornRingsModel" "shafts" "I") (by decide +kernel)) (fun _ h9 => h9) rfl dX9_ring_4 ?_
  refine lv_iconst (v := 1) hx hb dX9_ring_7 (by decide) ?_
  refine lv_isub hx hb dX9_ring_8 ?_
  rw [show ((nI sh) - (1 : Int32) : Int32) = nI (sh - 1) from pk_sub (a := sh) (b := 1) (by omega)]
  refine lv_i2l (v := lN (sh - 1)) hx hb dX9_ring_9 (nI_l (by omega)) ?_
  refine rSi hE ⟨hx, hb, hml, hown, hts⟩ (c_X9_in l E yy.toInt64 0 (lN (sh - 1)) ) (va_cwS 3 hts gX9_ring_X9_in rfl rfl rfl (by decide +kernel) ⟨Nat.le_of_ble_eq_true rfl, Nat.le_of_ble_eq_true rfl⟩) (hP.sub [] rfl) rfl hl.1 rfl (Nat.le_of_ble_eq_true rfl) dX9_ring_10 ⟨(Nat.zero_le _), (Nat.zero_le _)⟩ ?_
  rw [show fIn yy.toInt64 0 (lN (sh - 1)) = fWi yy 0 (nI (sh - 1)) from fIn_c (rfl) (by decide) (nI_l (by omega))]
  refine lv_if_eq (tgt := 57) hx hb dX9_ring_13 (by decide) (fun c_13 => ?_) (fun c_13 => ?_)
  · have c_13 := fWi_0 c_13
    refine lv_iconst (v := (-1)) hx hb dX9_ring_57 (by decide) ?_
    have hP9 : va_P E.1 vwCl [(m0, .inr (9, [.int (nI sh), .ref rO, .ref rU, .ref rT, .int (nI rg), .ref rS, .ref rB, .ref rP, .ref rG, .long ab0, .long be0, .int mk, .ref rM, .int md, .ref rN, .ref rL, .ref rZ, .ref rE, .ref rI, .int hc, .ref rA, .ref rX, .int lnn, .ref rV, .ref rW, .int sl, .ref rC, .ref rF, .ref rQ, .ref rK, .ref rR, .ref rD]))] s.heap := hP.sub [0] rfl
    have hD9 : va_D A [(m0, .inr (9, [.int (nI sh), .ref rO, .ref rU, .ref rT, .int (nI rg), .ref rS, .ref rB, .ref rP, .ref rG, .long ab0, .long be0, .int mk, .ref rM, .int md, .ref rN, .ref rL, .ref rZ, .ref rE, .ref rI, .int hc, .ref rA, .ref rX, .int lnn, .ref rV, .ref rW, .int sl, .ref rC, .ref rF, .ref rQ, .ref rK, .ref rR, .ref rD]))] := hD.sub [0] (by decide) rfl
    exact W.iret (v := (-1)) hx hb hr (fun t9 ht9 hW9 => ⟨⟨(-1), (), rfl, by first | exact (if_neg (fun h9 => c_13 h9.1)).symm | exact (if_neg (fun h9 => c_27 h9.2.1)).symm | exact (if_neg (fun h9 => c_41 h9.2.2.1)).symm | exact (if_neg (fun h9 => c_54 h9.2.2.2)).symm, ⟨by rw [ht9]; exact hP9, hD9⟩⟩, hS.F ht9⟩) hS.2.2 dX9_ring_58
  · have c_13 := fWi_1 c_13
    refine lv_iload_n hx hb dX9_ring_16 rfl (lv_at hl 2 rfl) ?_
    refine lv_i2l (v := bl.toInt64) hx hb dX9_ring_17 (rfl) ?_
    refine lv_ldc2 (v := 3) hx hb hown (hts (.constantLong RX9 108 (3)) (by decide +kernel)) dX9_ring_18 ?_
    refine lv_ldc2 (v := 30) hx hb hown (hts (.constantLong RX9 110 (30)) (by decide +kernel)) dX9_ring_21 ?_
    refine rSi hE ⟨hx, hb, hml, hown, hts⟩ (c_X9_in l E bl.toInt64 3 30 ) (va_cwS 3 hts gX9_ring_X9_in rfl rfl rfl (by decide +kernel) ⟨Nat.le_of_ble_eq_true rfl, Nat.le_of_ble_eq_true rfl⟩) (hP.sub [] rfl) rfl hl.1 rfl (Nat.le_of_ble_eq_true rfl) dX9_ring_24 ⟨(Nat.zero_le _), (Nat.zero_le _)⟩ ?_
    rw [show fIn bl.toInt64 3 30 = fWi bl 3 30 from fIn_c (rfl) (by decide) (by decide)]
    refine lv_if_eq (tgt := 57) hx hb dX9_ring_27 (by decide) (fun c_27 => ?_) (fun c_27 => ?_)
    · have c_27 := fWi_0 c_27
      refine lv_iconst (v := (-1)) hx hb dX9_ring_57 (by decide) ?_
      have hP9 : va_P E.1 vwCl [(m0, .inr (9, [.int (nI sh), .ref rO, .ref rU, .ref rT, .int (nI rg), .ref rS, .ref rB, .ref rP, .ref rG, .long ab0, .long be0, .int mk, .ref rM, .int md, .ref rN, .ref rL, .ref rZ, .ref rE, .ref rI, .int hc, .ref rA, .ref rX, .int lnn, .ref rV, .ref rW, .int sl, .ref rC, .ref rF, .ref rQ, .ref rK, .ref rR, .ref rD]))] s.heap := hP.sub [0] rfl
      have hD9 : va_D A [(m0, .inr (9, [.int (nI sh), .ref rO, .ref rU, .ref rT, .int (nI rg), .ref rS, .ref rB, .ref rP, .ref rG, .long ab0, .long be0, .int mk, .ref rM, .int md, .ref rN, .ref rL, .ref rZ, .ref rE, .ref rI, .int hc, .ref rA, .ref rX, .int lnn, .ref rV, .ref rW, .int sl, .ref rC, .ref rF, .ref rQ, .ref rK, .ref rR, .ref rD]))] := hD.sub [0] (by decide) rfl
      exact W.iret (v := (-1)) hx hb hr (fun t9 ht9 hW9 => ⟨⟨(-1), (), rfl, by first | exact (if_neg (fun h9 => c_13 h9.1)).symm | exact (if_neg (fun h9 => c_27 h9.2.1)).symm | exact (if_neg (fun h9 => c_41 h9.2.2.1)).symm | exact (if_neg (fun h9 => c_54 h9.2.2.2)).symm, ⟨by rw [ht9]; exact hP9, hD9⟩⟩, hS.F ht9⟩) hS.2.2 dX9_ring_58
    · have c_27 := fWi_1 c_27
      refine lv_iload_n hx hb dX9_ring_30 rfl (lv_at hl 3 rfl) ?_
      refine lv_i2l (v := pp.toInt64) hx hb dX9_ring_31 (rfl) ?_
      refine lv_lconst (v := 1) hx hb dX9_ring_32 (by decide) ?_
      refine lv_iload hx hb dX9_ring_33 (lv_at hl 4 rfl) ?_
      refine lv_iconst (v := 1) hx hb dX9_ring_35 (by decide) ?_
      refine lv_isub hx hb dX9_ring_36 ?_
      refine lv_i2l (v := (qq - 1).toInt64) hx hb dX9_ring_37 (rfl) ?_
      refine rSi hE ⟨hx, hb, hml, hown, hts⟩ (c_X9_in l E pp.toInt64 1 ((qq - 1).toInt64) ) (va_cwS 3 hts gX9_ring_X9_in rfl rfl rfl (by decide +kernel) ⟨Nat.le_of_ble_eq_true rfl, Nat.le_of_ble_eq_true rfl⟩) (hP.sub [] rfl) rfl hl.1 rfl (Nat.le_of_ble_eq_true rfl) dX9_ring_38 ⟨(Nat.zero_le _), (Nat.zero_le _)⟩ ?_
      rw [show fIn pp.toInt64 1 ((qq - 1).toInt64) = fWi pp 1 (qq - 1) from fIn_c (rfl) (by decide) (rfl)]
      refine lv_if_eq (tgt := 57) hx hb dX9_ring_41 (by decide) (fun c_41 => ?_) (fun c_41 => ?_)
      · have c_41 := fWi_0 c_41
        refine lv_iconst (v := (-1)) hx hb dX9_ring_57 (by decide) ?_
        have hP9 : va_P E.1 vwCl [(m0, .inr (9, [.int (nI sh), .ref rO, .ref rU, .ref rT, .int (nI rg), .ref rS, .ref rB, .ref rP, .ref rG, .long ab0, .long be0, .int mk, .ref rM, .int md, .ref rN, .ref rL, .ref rZ, .ref rE, .ref rI, .int hc, .ref rA, .ref rX, .int lnn, .ref rV, .ref rW, .int sl, .ref rC, .ref rF, .ref rQ, .ref rK, .ref rR, .ref rD]))] s.heap := hP.sub [0] rfl
        have hD9 : va_D A [(m0, .inr (9, [.int (nI sh), .ref rO, .ref rU, .ref rT, .int (nI rg), .ref rS, .ref rB, .ref rP, .ref rG, .long ab0, .long be0, .int mk, .ref rM, .int md, .ref rN, .ref rL, .ref rZ, .ref rE, .ref rI, .int hc, .ref rA, .ref rX, .int lnn, .ref rV, .ref rW, .int sl, .ref rC, .ref rF, .ref rQ, .ref rK, .ref rR, .ref rD]))] := hD.sub [0] (by decide) rfl
        exact W.iret (v := (-1)) hx hb hr (fun t9 ht9 hW9 => ⟨⟨(-1), (), rfl, by first | exact (if_neg (fun h9 => c_13 h9.1)).symm | exact (if_neg (fun h9 => c_27 h9.2.1)).symm | exact (if_neg (fun h9 => c_41 h9.2.2.1)).symm | exact (if_neg (fun h9 => c_54 h9.2.2.2)).symm, ⟨by rw [ht9]; exact hP9, hD9⟩⟩, hS.F ht9⟩) hS.2.2 dX9_ring_58
      · have c_41 := fWi_1 c_41
        refine lv_iload hx hb dX9_ring_44 (lv_at hl 4 rfl) ?_
        refine lv_i2l (v := qq.toInt64) hx hb dX9_ring_46 (rfl) ?_
        refine lv_lconst (v := 1) hx hb dX9_ring_47 (by decide) ?_
        refine lv_ldc2 (v := 100) hx hb hown (hts (.constantLong RX9 112 (100)) (by decide +kernel)) dX9_ring_48 ?_
        refine rSi hE ⟨hx, hb, hml, hown, hts⟩ (c_X9_in l E qq.toInt64 1 100 ) (va_cwS 3 hts gX9_ring_X9_in rfl rfl rfl (by decide +kernel) ⟨Nat.le_of_ble_eq_true rfl, Nat.le_of_ble_eq_true rfl⟩) (hP.sub [] rfl) rfl hl.1 rfl (Nat.le_of_ble_eq_true rfl) dX9_ring_51 ⟨(Nat.zero_le _), (Nat.zero_le _)⟩ ?_
        rw [show fIn qq.toInt64 1 100 = fWi qq 1 100 from fIn_c (rfl) (by decide) (by decide)]
        refine lv_if_ne (tgt := 59) hx hb dX9_ring_54 (by decide) (fun c_54 => ?_) (fun c_54 => ?_)
        · have c_54 := fWi_1 c_54
          refine lv_aload_n hx hb dX9_ring_59 rfl (lv_at hl 0 rfl) ?_
          refine va_get (D := E.1) (ci := 9) (v := .int (nI rg)) (C := RX9) (T := TX9) (N := 32) hx hb hts hinX9 hown hK hP 0 rfl rfl 4 (by decide) (hts (.fieldLink RX9 114 "WornRingsModel" "rings" "I") (by decide +kernel)) (fun _ h9 => h9) rfl dX9_ring_60 ?_
          refine lv_bipush (v := 8) hx hb dX9_ring_63 (by decide) ?_
          refine lv_icmp_ne (tgt := 71) hx hb dX9_ring_65 (by decide) (fun c_65 => by exfalso; have c_65 : ¬ rg = 8 := fun h9 => c_65 ((nI_eq (a := rg) (b := 8) (by omega) (by omega)).mpr h9); exact hno.elim (fun h9 => h9 ⟨c_13, c_27, c_41, c_54⟩) (fun h9 => by omega)) (fun c_65 => ?_)
          have c_65 : rg = 8 := (nI_eq (a := rg) (b := 8) (by omega) (by omega)).mp c_65
          refine lv_bipush (v := (-3)) hx hb dX9_ring_68 (by decide) ?_
          have hP9 : va_P E.1 vwCl [(m0, .inr (9, [.int (nI sh), .ref rO, .ref rU, .ref rT, .int (nI rg), .ref rS, .ref rB, .ref rP, .ref rG, .long ab0, .long be0, .int mk, .ref rM, .int md, .ref rN, .ref rL, .ref rZ, .ref rE, .ref rI, .int hc, .ref rA, .ref rX, .int lnn, .ref rV, .ref rW, .int sl, .ref rC, .ref rF, .ref rQ, .ref rK, .ref rR, .ref rD]))] s.heap := hP.sub [0] rfl
          have hD9 : va_D A [(m0, .inr (9, [.int (nI sh), .ref rO, .ref rU, .ref rT, .int (nI rg), .ref rS, .ref rB, .ref rP, .ref rG, .long ab0, .long be0, .int mk, .ref rM, .int md, .ref rN, .ref rL, .ref rZ, .ref rE, .ref rI, .int hc, .ref rA, .ref rX, .int lnn, .ref rV, .ref rW, .int sl, .ref rC, .ref rF, .ref rQ, .ref rK, .ref rR, .ref rD]))] := hD.sub [0] (by decide) rfl
          exact W.iret (v := (-3)) hx hb hr (fun t9 ht9 hW9 => ⟨⟨(-3), (), rfl, (if_pos ⟨c_13, c_27, c_41, c_54⟩).symm, ⟨by rw [ht9]; exact hP9, hD9⟩⟩, hS.F ht9⟩) hS.2.2 dX9_ring_70
        · have c_54 := fWi_0 c_54
          refine lv_iconst (v := (-1)) hx hb dX9_ring_57 (by decide) ?_
          have hP9 : va_P E.1 vwCl [(m0, .inr (9, [.int (nI sh), .ref rO, .ref rU, .ref rT, .int (nI rg), .ref rS, .ref rB, .ref rP, .ref rG, .long ab0, .long be0, .int mk, .ref rM, .int md, .ref rN, .ref rL, .ref rZ, .ref rE, .ref rI, .int hc, .ref rA, .ref rX, .int lnn, .ref rV, .ref rW, .int sl, .ref rC, .ref rF, .ref rQ, .ref rK, .ref rR, .ref rD]))] s.heap := hP.sub [0] rfl
          have hD9 : va_D A [(m0, .inr (9, [.int (nI sh), .ref rO, .ref rU, .ref rT, .int (nI rg), .ref rS, .ref rB, .ref rP, .ref rG, .long ab0, .long be0, .int mk, .ref rM, .int md, .ref rN, .ref rL, .ref rZ, .ref rE, .ref rI, .int hc, .ref rA, .ref rX, .int lnn, .ref rV, .ref rW, .int sl, .ref rC, .ref rF, .ref rQ, .ref rK, .ref rR, .ref rD]))] := hD.sub [0] (by decide) rfl
          exact W.iret (v := (-1)) hx hb hr (fun t9 ht9 hW9 => ⟨⟨(-1), (), rfl, by first | exact (if_neg (fun h9 => c_13 h9.1)).symm | exact (if_neg (fun h9 => c_27 h9.2.1)).symm | exact (if_neg (fun h9 => c_41 h9.2.2.1)).symm | exact (if_neg (fun h9 => c_54 h9.2.2.2)).symm, ⟨by rw [ht9]; exact hP9, hD9⟩⟩, hS.F ht9⟩) hS.2.2 dX9_ring_58
set_option maxHeartbeats 1000000 in
set_option maxRecDepth 100000 in
theorem c_X9_ring_yes (l : Launch) (E : EnvT) (sz : Nat) (m0 : Nat) (sh : Nat) (rO : Nat) (rU : Nat) (rT : Nat) (rg : Nat) (rS : Nat) (rB : Nat) (rP : Nat) (rG : Nat) (ab0 : Int64) (be0 : Int64) (mk : Int32) (rM : Nat) (md : Int32) (rN : Nat) (rL : Nat) (rZ : Nat) (rE : Nat) (rI : Nat) (hc : Int32) (rA : Nat) (rX : Nat) (lnn : Int32) (rV : Nat) (rW : Nat) (sl : Int32) (rC : Nat) (rF : Nat) (rQ : Nat) (rK : Nat) (rR : Nat) (rD : Nat) (Si : Nat → Nat) (Ba : Nat → Nat) (Sm : Nat → Nat) (Gr : Nat → Nat) (y : Nat) (bl : Nat) (pp : Nat) (qq : Nat) (hs1 : 1 ≤ sh) (hs4 : sh ≤ 4) (hr8 : rg < 8) (hy : y < sh) (hb1 : 3 ≤ bl) (hb2 : bl ≤ 30) (hp1 : 1 ≤ pp) (hpq : pp < qq) (hq2 : qq ≤ 100) : Met l yX9_ring wsX9_ring ({ frames := 1, cells := 0, slots := 0, locals := 25 }) (va_Pc [.ref m0, .int (nI y), .int (nI bl), .int (nI pp), .int (nI qq)] (PW E [(m0, .inr (9, [.int (nI sh), .ref rO, .ref rU, .ref rT, .int (nI rg), .ref rS, .ref rB, .ref rP, .ref rG, .long ab0, .long be0, .int mk, .ref rM, .int md, .ref rN, .ref rL, .ref rZ, .ref rE, .ref rI, .int hc, .ref rA, .ref rX, .int lnn, .ref rV, .ref rW, .int sl, .ref rC, .ref rF, .ref rQ, .ref rK, .ref rR, .ref rD])), (rS, .inl (E.2 1, 8, .inl (nA Si))), (rB, .inl (E.2 1, 8, .inl (nA Ba))), (rP, .inl (E.2 1, 8, .inl (nA Sm))), (rG, .inl (E.2 1, 8, .inl (nA Gr)))] sz)) (va_Qi (fun (r : Int32) (uu : Unit) => r = nI rg) (fun (uu : Unit) t => BW E (va_A [(m0, .inr (9, [.int (nI sh), .ref rO, .ref rU, .ref rT, .int (nI rg), .ref rS, .ref rB, .ref rP, .ref rG, .long ab0, .long be0, .int mk, .ref rM, .int md, .ref rN, .ref rL, .ref rZ, .ref rE, .ref rI, .int hc, .ref rA, .ref rX, .int lnn, .ref rV, .ref rW, .int sl, .ref rC, .ref rF, .ref rQ, .ref rK, .ref rR, .ref rD])), (rS, .inl (E.2 1, 8, .inl (nA Si))), (rB, .inl (E.2 1, 8, .inl (nA Ba))), (rP, .inl (E.2 1, 8, .inl (nA Sm))), (rG, .inl (E.2 1, 8, .inl (nA Gr)))] sz) [(m0, .inr (9, [.int (nI sh), .ref rO, .ref rU, .ref rT, .int (nI (rg + 1)), .ref rS, .ref rB, .ref rP, .ref rG, .long ab0, .long be0, .int mk, .ref rM, .int md, .ref rN, .ref rL, .ref rZ, .ref rE, .ref rI, .int hc, .ref rA, .ref rX, .int lnn, .ref rV, .ref rW, .int sl, .ref rC, .ref rF, .ref rQ, .ref rK, .ref rR, .ref rD])), (rS, .inl (E.2 1, 8, .inl (nA (updN Si rg y)))), (rB, .inl (E.2 1, 8, .inl (nA (updN Ba rg bl)))), (rP, .inl (E.2 1, 8, .inl (nA (updN Sm rg pp)))), (rG, .inl (E.2 1, 8, .inl (nA (updN Gr rg qq))))] t) (va_A [(m0, .inr (9, [.int (nI sh), .ref rO, .ref rU, .ref rT, .int (nI rg), .ref rS, .ref rB, .ref rP, .ref rG, .long ab0, .long be0, .int mk, .ref rM, .int md, .ref rN, .ref rL, .ref rZ, .ref rE, .ref rI, .int hc, .ref rA, .ref rX, .int lnn, .ref rV, .ref rW, .int sl, .ref rC, .ref rF, .ref rQ, .ref rK, .ref rR, .ref rD])), (rS, .inl (E.2 1, 8, .inl (nA Si))), (rB, .inl (E.2 1, 8, .inl (nA Ba))), (rP, .inl (E.2 1, 8, .inl (nA Sm))), (rG, .inl (E.2 1, 8, .inl (nA Gr)))] sz)) 0 0 (va_A [(m0, .inr (9, [.int (nI sh), .ref rO, .ref rU, .ref rT, .int (nI rg), .ref rS, .ref rB, .ref rP, .ref rG, .long ab0, .long be0, .int mk, .ref rM, .int md, .ref rN, .ref rL, .ref rZ, .ref rE, .ref rI, .int hc, .ref rA, .ref rX, .int lnn, .ref rV, .ref rW, .int sl, .ref rC, .ref rF, .ref rQ, .ref rK, .ref rR, .ref rD])), (rS, .inl (E.2 1, 8, .inl (nA Si))), (rB, .inl (E.2 1, 8, .inl (nA Ba))), (rP, .inl (E.2 1, 8, .inl (nA Sm))), (rG, .inl (E.2 1, 8, .inl (nA Gr)))] sz) := by
  refine Met.ofW (cc := cX9_ring) (maxL := 5) (ret := (some .int)) (by decide +kernel) rfl ?_
  intro p e s m args below meth c s₁ B hml hv
  obtain ⟨rfl, hsz, hP, hE, hD0⟩ := hv
  have hx := B.exec
  have hb := B.bytes
  have hr := B.returns
  have hts := atoms_spec (ws := wsX9_ring) B.pre
  have hown : s.vm.findClass RX9 = some m.cls := findClass_of_methodNamed B.named
  have hlocks := B.notSynchronized
  have hK := hE.1
  have hNN := hE.2.1
  have hinX9 : ∀ w ∈ wsX90, w ∈ wsX9_ring := fun w h => List.mem_cons_of_mem _ (List.mem_append_right _ h)
  subst hsz
  have hD := hD0.self (sz := s.heap.size)
  generalize hAe : va_A [(m0, .inr (9, [.int (nI sh), .ref rO, .ref rU, .ref rT, .int (nI rg), .ref rS, .ref rB, .ref rP, .ref rG, .long ab0, .long be0, .int mk, .ref rM, .int md, .ref rN, .ref rL, .ref rZ, .ref rE, .ref rI, .int hc, .ref rA, .ref rX, .int lnn, .ref rV, .ref rW, .int sl, .ref rC, .ref rF, .ref rQ, .ref rK, .ref rR, .ref rD])), (rS, .inl (E.2 1, 8, .inl (nA Si))), (rB, .inl (E.2 1, 8, .inl (nA Ba))), (rP, .inl (E.2 1, 8, .inl (nA Sm))), (rG, .inl (E.2 1, 8, .inl (nA Gr)))] s.heap.size = A at hD ⊢
  have hA : ∀ q : Nat, s.heap.size ≤ q → A q := fun q h => by rw [← hAe]; exact Or.inr h
  have hS : va_S A s.heap s.heap [] := va_S.rf
  have hl := lv_entry ([.ref m0, .int (nI y), .int (nI bl), .int (nI pp), .int (nI qq)]) (n := 5) (Nat.le_of_ble_eq_true rfl)
  rw [lg_entry_eq]
  generalize (lg_sl ([.ref m0, .int (nI y), .int (nI bl), .int (nI pp), .int (nI qq)]) ++ List.replicate (5 - (lg_sl ([.ref m0, .int (nI y), .int (nI bl), .int (nI pp), .int (nI qq)])).length) Slot.unset).toArray = ls at hl ⊢
  have hl : lv_has ls 5 [(0, .ref m0), (1, .int (nI y)), (2, .int (nI bl)), (3, .int (nI pp)), (4, .int (nI qq))] := hl
  refine lv_iload_n hx hb dX9_ring_0 rfl (lv_at hl 1 rfl) ?_
  refine lv_i2l (v := lN y) hx hb dX9_ring_1 (nI_l (by omega)) ?_
  refine lv_lconst (v := 0) hx hb dX9_ring_2 (by decide) ?_
  refine lv_aload_n hx hb dX9_ring_3 rfl (lv_at hl 0 rfl) ?_
  refine va_get (D := E.1) (ci := 9) (v := .int (nI sh)) (C := RX9) (T := TX9) (N := 32) hx hb hts hinX9 hown hK hP 0 rfl rfl 0 (by decide) (hts (.fieldLink RX9 7 "WornRingsModel" "shafts" "I") (by decide +kernel)) (fun _ h9 => h9) rfl dX9_ring_4 ?_
  refine lv_iconst (v := 1) hx hb dX9_ring_7 (by decide) ?_
  refine lv_isub hx hb dX9_ring_8 ?_
  rw [show ((nI sh) - (1 : Int32) : Int32) = nI (sh - 1) from pk_sub (a := sh) (b := 1) (by omega)]
  refine lv_i2l (v := lN (sh - 1)) hx hb dX9_ring_9 (nI_l (by omega)) ?_
  refine rSi hE ⟨hx, hb, hml, hown, hts⟩ (c_X9_in l E (lN y) 0 (lN (sh - 1)) ) (va_cwS 3 hts gX9_ring_X9_in rfl rfl rfl (by decide +kernel) ⟨Nat.le_of_ble_eq_true rfl, Nat.le_of_ble_eq_true rfl⟩) (hP.sub [] rfl) rfl hl.1 rfl (Nat.le_of_ble_eq_true rfl) dX9_ring_10 ⟨(Nat.zero_le _), (Nat.zero_le _)⟩ ?_
  rw [show fIn (lN y) 0 (lN (sh - 1)) = fWi (nI y) 0 (nI (sh - 1)) from fIn_c (nI_l (by omega)) (by decide) (nI_l (by omega))]
  refine lv_if_eq (tgt := 57) hx hb dX9_ring_13 (by decide) (fun c_13 => by exfalso; have c_13 := fWi_0 c_13; exact c_13 ⟨nI_pos' (by omega), nI_le (by omega) (by omega)⟩) (fun c_13 => ?_)
  have c_13 := fWi_1 c_13
  refine lv_iload_n hx hb dX9_ring_16 rfl (lv_at hl 2 rfl) ?_
  refine lv_i2l (v := lN bl) hx hb dX9_ring_17 (nI_l (by omega)) ?_
  refine lv_ldc2 (v := 3) hx hb hown (hts (.constantLong RX9 108 (3)) (by decide +kernel)) dX9_ring_18 ?_
  refine lv_ldc2 (v := 30) hx hb hown (hts (.constantLong RX9 110 (30)) (by decide +kernel)) dX9_ring_21 ?_
  refine rSi hE ⟨hx, hb, hml, hown, hts⟩ (c_X9_in l E (lN bl) 3 30 ) (va_cwS 3 hts gX9_ring_X9_in rfl rfl rfl (by decide +kernel) ⟨Nat.le_of_ble_eq_true rfl, Nat.le_of_ble_eq_true rfl⟩) (hP.sub [] rfl) rfl hl.1 rfl (Nat.le_of_ble_eq_true rfl) dX9_ring_24 ⟨(Nat.zero_le _), (Nat.zero_le _)⟩ ?_
  rw [show fIn (lN bl) 3 30 = fWi (nI bl) 3 30 from fIn_c (nI_l (by omega)) (by decide) (by decide)]
  refine lv_if_eq (tgt := 57) hx hb dX9_ring_27 (by decide) (fun c_27 => by exfalso; have c_27 := fWi_0 c_27; exact c_27 ⟨nI_le (a := 3) (by omega) (by omega), nI_le (b := 30) (by omega) (by omega)⟩) (fun c_27 => ?_)
  have c_27 := fWi_1 c_27
  refine lv_iload_n hx hb dX9_ring_30 rfl (lv_at hl 3 rfl) ?_
  refine lv_i2l (v := lN pp) hx hb dX9_ring_31 (nI_l (by omega)) ?_
  refine lv_lconst (v := 1) hx hb dX9_ring_32 (by decide) ?_
  refine lv_iload hx hb dX9_ring_33 (lv_at hl 4 rfl) ?_
  refine lv_iconst (v := 1) hx hb dX9_ring_35 (by decide) ?_
  refine lv_isub hx hb dX9_ring_36 ?_
  rw [show ((nI qq) - (1 : Int32) : Int32) = nI (qq - 1) from pk_sub (a := qq) (b := 1) (by omega)]
  refine lv_i2l (v := lN (qq - 1)) hx hb dX9_ring_37 (nI_l (by omega)) ?_
  refine rSi hE ⟨hx, hb, hml, hown, hts⟩ (c_X9_in l E (lN pp) 1 (lN (qq - 1)) ) (va_cwS 3 hts gX9_ring_X9_in rfl rfl rfl (by decide +kernel) ⟨Nat.le_of_ble_eq_true rfl, Nat.le_of_ble_eq_true rfl⟩) (hP.sub [] rfl) rfl hl.1 rfl (Nat.le_of_ble_eq_true rfl) dX9_ring_38 ⟨(Nat.zero_le _), (Nat.zero_le _)⟩ ?_
  rw [show fIn (lN pp) 1 (lN (qq - 1)) = fWi (nI pp) 1 (nI (qq - 1)) from fIn_c (nI_l (by omega)) (by decide) (nI_l (by omega))]
  refine lv_if_eq (tgt := 57) hx hb dX9_ring_41 (by decide) (fun c_41 => by exfalso; have c_41 := fWi_0 c_41; exact c_41 ⟨nI_le (a := 1) (by omega) (by omega), nI_le (by omega) (by omega)⟩) (fun c_41 => ?_)
  have c_41 := fWi_1 c_41
  refine lv_iload hx hb dX9_ring_44 (lv_at hl 4 rfl) ?_
  refine lv_i2l (v := lN qq) hx hb dX9_ring_46 (nI_l (by omega)) ?_
  refine lv_lconst (v := 1) hx hb dX9_ring_47 (by decide) ?_
  refine lv_ldc2 (v := 100) hx hb hown (hts (.constantLong RX9 112 (100)) (by decide +kernel)) dX9_ring_48 ?_
  refine rSi hE ⟨hx, hb, hml, hown, hts⟩ (c_X9_in l E (lN qq) 1 100 ) (va_cwS 3 hts gX9_ring_X9_in rfl rfl rfl (by decide +kernel) ⟨Nat.le_of_ble_eq_true rfl, Nat.le_of_ble_eq_true rfl⟩) (hP.sub [] rfl) rfl hl.1 rfl (Nat.le_of_ble_eq_true rfl) dX9_ring_51 ⟨(Nat.zero_le _), (Nat.zero_le _)⟩ ?_
  rw [show fIn (lN qq) 1 100 = fWi (nI qq) 1 100 from fIn_c (nI_l (by omega)) (by decide) (by decide)]
  refine lv_if_ne (tgt := 59) hx hb dX9_ring_54 (by decide) (fun c_54 => ?_) (fun c_54 => by exfalso; have c_54 := fWi_0 c_54; exact c_54 ⟨nI_le (a := 1) (by omega) (by omega), nI_le (b := 100) (by omega) (by omega)⟩)
  have c_54 := fWi_1 c_54
  refine lv_aload_n hx hb dX9_ring_59 rfl (lv_at hl 0 rfl) ?_
  refine va_get (D := E.1) (ci := 9) (v := .int (nI rg)) (C := RX9) (T := TX9) (N := 32) hx hb hts hinX9 hown hK hP 0 rfl rfl 4 (by decide) (hts (.fieldLink RX9 114 "WornRingsModel" "rings" "I") (by decide +kernel)) (fun _ h9 => h9) rfl dX9_ring_60 ?_
  refine lv_bipush (v := 8) hx hb dX9_ring_63 (by decide) ?_
  refine lv_icmp_ne (tgt := 71) hx hb dX9_ring_65 (by decide) (fun c_65 => ?_) (fun c_65 => by exfalso; have c_65 : rg = 8 := (nI_eq (a := rg) (b := 8) (by omega) (by omega)).mp c_65; omega)
  have c_65 : ¬ rg = 8 := fun h9 => c_65 ((nI_eq (a := rg) (b := 8) (by omega) (by omega)).mpr h9)
  refine lv_aload_n hx hb dX9_ring_71 rfl (lv_at hl 0 rfl) ?_
  refine va_get (D := E.1) (ci := 9) (v := .ref rS) (C := RX9) (T := TX9) (N := 32) hx hb hts hinX9 hown hK hP 0 rfl rfl 5 (by decide) (hts (.fieldLink RX9 24 "WornRingsModel" "sits" "[I") (by decide +kernel)) (fun _ h9 => h9) rfl dX9_ring_72 ?_
  refine lv_aload_n hx hb dX9_ring_75 rfl (lv_at hl 0 rfl) ?_
  refine va_get (D := E.1) (ci := 9) (v := .int (nI rg)) (C := RX9) (T := TX9) (N := 32) hx hb hts hinX9 hown hK hP 0 rfl rfl 4 (by decide) (hts (.fieldLink RX9 114 "WornRingsModel" "rings" "I") (by decide +kernel)) (fun _ h9 => h9) rfl dX9_ring_76 ?_
  refine lv_iload_n hx hb dX9_ring_79 rfl (lv_at hl 1 rfl) ?_
  refine va_iast hx hb hK hP hD hS 1 1 rfl rfl (vp_in_nI (by omega) (by omega)) dX9_ring_80 (fun H locs hP hD hS => ?_)
  rw [nI_clamp (n := rg) (by omega)] at hP hD
  rw [show upd (nA Si) rg (nI y) = nA (updN Si rg y) from upd_nA _ _ _] at hP hD
  have hP : va_P E.1 vwCl [(m0, .inr (9, [.int (nI sh), .ref rO, .ref rU, .ref rT, .int (nI rg), .ref rS, .ref rB, .ref rP, .ref rG, .long ab0, .long be0, .int mk, .ref rM, .int md, .ref rN, .ref rL, .ref rZ, .ref rE, .ref rI, .int hc, .ref rA, .ref rX, .int lnn, .ref rV, .ref rW, .int sl, .ref rC, .ref rF, .ref rQ, .ref rK, .ref rR, .ref rD])), (rS, .inl (E.2 1, 8, .inl (nA (updN Si rg y)))), (rB, .inl (E.2 1, 8, .inl (nA Ba))), (rP, .inl (E.2 1, 8, .inl (nA Sm))), (rG, .inl (E.2 1, 8, .inl (nA Gr)))] H := hP
  have hD : va_D A [(m0, .inr (9, [.int (nI sh), .ref rO, .ref rU, .ref rT, .int (nI rg), .ref rS, .ref rB, .ref rP, .ref rG, .long ab0, .long be0, .int mk, .ref rM, .int md, .ref rN, .ref rL, .ref rZ, .ref rE, .ref rI, .int hc, .ref rA, .ref rX, .int lnn, .ref rV, .ref rW, .int sl, .ref rC, .ref rF, .ref rQ, .ref rK, .ref rR, .ref rD])), (rS, .inl (E.2 1, 8, .inl (nA (updN Si rg y)))), (rB, .inl (E.2 1, 8, .inl (nA Ba))), (rP, .inl (E.2 1, 8, .inl (nA Sm))), (rG, .inl (E.2 1, 8, .inl (nA Gr)))] := hD
  refine lv_aload_n hx hb dX9_ring_81 rfl (lv_at hl 0 rfl) ?_
  refine va_get (D := E.1) (ci := 9) (v := .ref rB) (C := RX9) (T := TX9) (N := 32) hx hb hts hinX9 hown hK hP 0 rfl rfl 6 (by decide) (hts (.fieldLink RX9 27 "WornRingsModel" "balls" "[I") (by decide +kernel)) (fun _ h9 => h9) rfl dX9_ring_82 ?_
  refine lv_aload_n hx hb dX9_ring_85 rfl (lv_at hl 0 rfl) ?_
  refine va_get (D := E.1) (ci := 9) (v := .int (nI rg)) (C := RX9) (T := TX9) (N := 32) hx hb hts hinX9 hown hK hP 0 rfl rfl 4 (by decide) (hts (.fieldLink RX9 114 "WornRingsModel" "rings" "I") (by decide +kernel)) (fun _ h9 => h9) rfl dX9_ring_86 ?_
  refine lv_iload_n hx hb dX9_ring_89 rfl (lv_at hl 2 rfl) ?_
  refine va_iast hx hb hK hP hD hS 2 1 rfl rfl (vp_in_nI (by omega) (by omega)) dX9_ring_90 (fun H locs hP hD hS => ?_)
  rw [nI_clamp (n := rg) (by omega)] at hP hD
  rw [show upd (nA Ba) rg (nI bl) = nA (updN Ba rg bl) from upd_nA _ _ _] at hP hD
  have hP : va_P E.1 vwCl [(m0, .inr (9, [.int (nI sh), .ref rO, .ref rU, .ref rT, .int (nI rg), .ref rS, .ref rB, .ref rP, .ref rG, .long ab0, .long be0, .int mk, .ref rM, .int md, .ref rN, .ref rL, .ref rZ, .ref rE, .ref rI, .int hc, .ref rA, .ref rX, .int lnn, .ref rV, .ref rW, .int sl, .ref rC, .ref rF, .ref rQ, .ref rK, .ref rR, .ref rD])), (rS, .inl (E.2 1, 8, .inl (nA (updN Si rg y)))), (rB, .inl (E.2 1, 8, .inl (nA (updN Ba rg bl)))), (rP, .inl (E.2 1, 8, .inl (nA Sm))), (rG, .inl (E.2 1, 8, .inl (nA Gr)))] H := hP
  have hD : va_D A [(m0, .inr (9, [.int (nI sh), .ref rO, .ref rU, .ref rT, .int (nI rg), .ref rS, .ref rB, .ref rP, .ref rG, .long ab0, .long be0, .int mk, .ref rM, .int md, .ref rN, .ref rL, .ref rZ, .ref rE, .ref rI, .int hc, .ref rA, .ref rX, .int lnn, .ref rV, .ref rW, .int sl, .ref rC, .ref rF, .ref rQ, .ref rK, .ref rR, .ref rD])), (rS, .inl (E.2 1, 8, .inl (nA (updN Si rg y)))), (rB, .inl (E.2 1, 8, .inl (nA (updN Ba rg bl)))), (rP, .inl (E.2 1, 8, .inl (nA Sm))), (rG, .inl (E.2 1, 8, .inl (nA Gr)))] := hD
  refine lv_aload_n hx hb dX9_ring_91 rfl (lv_at hl 0 rfl) ?_
  refine va_get (D := E.1) (ci := 9) (v := .ref rP) (C := RX9) (T := TX9) (N := 32) hx hb hts hinX9 hown hK hP 0 rfl rfl 7 (by decide) (hts (.fieldLink RX9 30 "WornRingsModel" "small" "[I") (by decide +kernel)) (fun _ h9 => h9) rfl dX9_ring_92 ?_
  refine lv_aload_n hx hb dX9_ring_95 rfl (lv_at hl 0 rfl) ?_
  refine va_get (D := E.1) (ci := 9) (v := .int (nI rg)) (C := RX9) (T := TX9) (N := 32) hx hb hts hinX9 hown hK hP 0 rfl rfl 4 (by decide) (hts (.fieldLink RX9 114 "WornRingsModel" "rings" "I") (by decide +kernel)) (fun _ h9 => h9) rfl dX9_ring_96 ?_
  refine lv_iload_n hx hb dX9_ring_99 rfl (lv_at hl 3 rfl) ?_
  refine va_iast hx hb hK hP hD hS 3 1 rfl rfl (vp_in_nI (by omega) (by omega)) dX9_ring_100 (fun H locs hP hD hS => ?_)
  rw [nI_clamp (n := rg) (by omega)] at hP hD
  rw [show upd (nA Sm) rg (nI pp) = nA (updN Sm rg pp) from upd_nA _ _ _] at hP hD
  have hP : va_P E.1 vwCl [(m0, .inr (9, [.int (nI sh), .ref rO, .ref rU, .ref rT, .int (nI rg), .ref rS, .ref rB, .ref rP, .ref rG, .long ab0, .long be0, .int mk, .ref rM, .int md, .ref rN, .ref rL, .ref rZ, .ref rE, .ref rI, .int hc, .ref rA, .ref rX, .int lnn, .ref rV, .ref rW, .int sl, .ref rC, .ref rF, .ref rQ, .ref rK, .ref rR, .ref rD])), (rS, .inl (E.2 1, 8, .inl (nA (updN Si rg y)))), (rB, .inl (E.2 1, 8, .inl (nA (updN Ba rg bl)))), (rP, .inl (E.2 1, 8, .inl (nA (updN Sm rg pp)))), (rG, .inl (E.2 1, 8, .inl (nA Gr)))] H := hP
  have hD : va_D A [(m0, .inr (9, [.int (nI sh), .ref rO, .ref rU, .ref rT, .int (nI rg), .ref rS, .ref rB, .ref rP, .ref rG, .long ab0, .long be0, .int mk, .ref rM, .int md, .ref rN, .ref rL, .ref rZ, .ref rE, .ref rI, .int hc, .ref rA, .ref rX, .int lnn, .ref rV, .ref rW, .int sl, .ref rC, .ref rF, .ref rQ, .ref rK, .ref rR, .ref rD])), (rS, .inl (E.2 1, 8, .inl (nA (updN Si rg y)))), (rB, .inl (E.2 1, 8, .inl (nA (updN Ba rg bl)))), (rP, .inl (E.2 1, 8, .inl (nA (updN Sm rg pp)))), (rG, .inl (E.2 1, 8, .inl (nA Gr)))] := hD
  refine lv_aload_n hx hb dX9_ring_101 rfl (lv_at hl 0 rfl) ?_
  refine va_get (D := E.1) (ci := 9) (v := .ref rG) (C := RX9) (T := TX9) (N := 32) hx hb hts hinX9 hown hK hP 0 rfl rfl 8 (by decide) (hts (.fieldLink RX9 33 "WornRingsModel" "great" "[I") (by decide +kernel)) (fun _ h9 => h9) rfl dX9_ring_102 ?_
  refine lv_aload_n hx hb dX9_ring_105 rfl (lv_at hl 0 rfl) ?_
  refine va_get (D := E.1) (ci := 9) (v := .int (nI rg)) (C := RX9) (T := TX9) (N := 32) hx hb hts hinX9 hown hK hP 0 rfl rfl 4 (by decide) (hts (.fieldLink RX9 114 "WornRingsModel" "rings" "I") (by decide +kernel)) (fun _ h9 => h9) rfl dX9_ring_106 ?_
  refine lv_iload hx hb dX9_ring_109 (lv_at hl 4 rfl) ?_
  refine va_iast hx hb hK hP hD hS 4 1 rfl rfl (vp_in_nI (by omega) (by omega)) dX9_ring_111 (fun H locs hP hD hS => ?_)
  rw [nI_clamp (n := rg) (by omega)] at hP hD
  rw [show upd (nA Gr) rg (nI qq) = nA (updN Gr rg qq) from upd_nA _ _ _] at hP hD
  have hP : va_P E.1 vwCl [(m0, .inr (9, [.int (nI sh), .ref rO, .ref rU, .ref rT, .int (nI rg), .ref rS, .ref rB, .ref rP, .ref rG, .long ab0, .long be0, .int mk, .ref rM, .int md, .ref rN, .ref rL, .ref rZ, .ref rE, .ref rI, .int hc, .ref rA, .ref rX, .int lnn, .ref rV, .ref rW, .int sl, .ref rC, .ref rF, .ref rQ, .ref rK, .ref rR, .ref rD])), (rS, .inl (E.2 1, 8, .inl (nA (updN Si rg y)))), (rB, .inl (E.2 1, 8, .inl (nA (updN Ba rg bl)))), (rP, .inl (E.2 1, 8, .inl (nA (updN Sm rg pp)))), (rG, .inl (E.2 1, 8, .inl (nA (updN Gr rg qq))))] H := hP
  have hD : va_D A [(m0, .inr (9, [.int (nI sh), .ref rO, .ref rU, .ref rT, .int (nI rg), .ref rS, .ref rB, .ref rP, .ref rG, .long ab0, .long be0, .int mk, .ref rM, .int md, .ref rN, .ref rL, .ref rZ, .ref rE, .ref rI, .int hc, .ref rA, .ref rX, .int lnn, .ref rV, .ref rW, .int sl, .ref rC, .ref rF, .ref rQ, .ref rK, .ref rR, .ref rD])), (rS, .inl (E.2 1, 8, .inl (nA (updN Si rg y)))), (rB, .inl (E.2 1, 8, .inl (nA (updN Ba rg bl)))), (rP, .inl (E.2 1, 8, .inl (nA (updN Sm rg pp)))), (rG, .inl (E.2 1, 8, .inl (nA (updN Gr rg qq))))] := hD
  refine lv_aload_n hx hb dX9_ring_112 rfl (lv_at hl 0 rfl) ?_
  refine lv_dup hx hb dX9_ring_113 rfl ?_
  refine va_get (D := E.1) (ci := 9) (v := .int (nI rg)) (C := RX9) (T := TX9) (N := 32) hx hb hts hinX9 hown hK hP 0 rfl rfl 4 (by decide) (hts (.fieldLink RX9 114 "WornRingsModel" "rings" "I") (by decide +kernel)) (fun _ h9 => h9) rfl dX9_ring_114 ?_
  refine lv_iconst (v := 1) hx hb dX9_ring_117 (by decide) ?_
  refine lv_iadd hx hb dX9_ring_118 ?_
  rw [show ((nI rg) + (1 : Int32) : Int32) = nI (rg + 1) from nI_add rg 1]
  refine va_put (D := E.1) (ci := 9) (v := .int (nI (rg + 1))) (ty := .int) (C := RX9) (T := TX9) (N := 32) hx hb hts hinX9 tyX9 tyX9_ok nmX9 hown hK hP hD hS 0 rfl rfl 4 (by decide) (hts (.fieldLink RX9 114 "WornRingsModel" "rings" "I") (by decide +kernel)) (fun _ h9 => h9) rfl (by decide +kernel) (rfl) (rfl) (Nat.le_of_ble_eq_true rfl) dX9_ring_119 (fun H locs hP hD hS => ?_)
  have hP : va_P E.1 vwCl [(m0, .inr (9, [.int (nI sh), .ref rO, .ref rU, .ref rT, .int (nI (rg + 1)), .ref rS, .ref rB, .ref rP, .ref rG, .long ab0, .long be0, .int mk, .ref rM, .int md, .ref rN, .ref rL, .ref rZ, .ref rE, .ref rI, .int hc, .ref rA, .ref rX, .int lnn, .ref rV, .ref rW, .int sl, .ref rC, .ref rF, .ref rQ, .ref rK, .ref rR, .ref rD])), (rS, .inl (E.2 1, 8, .inl (nA (updN Si rg y)))), (rB, .inl (E.2 1, 8, .inl (nA (updN Ba rg bl)))), (rP, .inl (E.2 1, 8, .inl (nA (updN Sm rg pp)))), (rG, .inl (E.2 1, 8, .inl (nA (updN Gr rg qq))))] H := hP
  have hD : va_D A [(m0, .inr (9, [.int (nI sh), .ref rO, .ref rU, .ref rT, .int (nI (rg + 1)), .ref rS, .ref rB, .ref rP, .ref rG, .long ab0, .long be0, .int mk, .ref rM, .int md, .ref rN, .ref rL, .ref rZ, .ref rE, .ref rI, .int hc, .ref rA, .ref rX, .int lnn, .ref rV, .ref rW, .int sl, .ref rC, .ref rF, .ref rQ, .ref rK, .ref rR, .ref rD])), (rS, .inl (E.2 1, 8, .inl (nA (updN Si rg y)))), (rB, .inl (E.2 1, 8, .inl (nA (updN Ba rg bl)))), (rP, .inl (E.2 1, 8, .inl (nA (updN Sm rg pp)))), (rG, .inl (E.2 1, 8, .inl (nA (updN Gr rg qq))))] := hD
  refine lv_aload_n hx hb dX9_ring_122 rfl (lv_at hl 0 rfl) ?_
  refine va_get (D := E.1) (ci := 9) (v := .int (nI (rg + 1))) (C := RX9) (T := TX9) (N := 32) hx hb hts hinX9 hown hK hP 0 rfl rfl 4 (by decide) (hts (.fieldLink RX9 114 "WornRingsModel" "rings" "I") (by decide +kernel)) (fun _ h9 => h9) rfl dX9_ring_123 ?_
  refine lv_iconst (v := 1) hx hb dX9_ring_126 (by decide) ?_
  refine lv_isub hx hb dX9_ring_127 ?_
  rw [show ((nI (rg + 1)) - (1 : Int32) : Int32) = nI ((rg + 1) - 1) from pk_sub (a := (rg + 1)) (b := 1) (by omega)]
  have hP9 : va_P E.1 vwCl [(m0, .inr (9, [.int (nI sh), .ref rO, .ref rU, .ref rT, .int (nI (rg + 1)), .ref rS, .ref rB, .ref rP, .ref rG, .long ab0, .long be0, .int mk, .ref rM, .int md, .ref rN, .ref rL, .ref rZ, .ref rE, .ref rI, .int hc, .ref rA, .ref rX, .int lnn, .ref rV, .ref rW, .int sl, .ref rC, .ref rF, .ref rQ, .ref rK, .ref rR, .ref rD])), (rS, .inl (E.2 1, 8, .inl (nA (updN Si rg y)))), (rB, .inl (E.2 1, 8, .inl (nA (updN Ba rg bl)))), (rP, .inl (E.2 1, 8, .inl (nA (updN Sm rg pp)))), (rG, .inl (E.2 1, 8, .inl (nA (updN Gr rg qq))))] H := hP.sub [0, 1, 2, 3, 4] rfl
  have hD9 : va_D A [(m0, .inr (9, [.int (nI sh), .ref rO, .ref rU, .ref rT, .int (nI (rg + 1)), .ref rS, .ref rB, .ref rP, .ref rG, .long ab0, .long be0, .int mk, .ref rM, .int md, .ref rN, .ref rL, .ref rZ, .ref rE, .ref rI, .int hc, .ref rA, .ref rX, .int lnn, .ref rV, .ref rW, .int sl, .ref rC, .ref rF, .ref rQ, .ref rK, .ref rR, .ref rD])), (rS, .inl (E.2 1, 8, .inl (nA (updN Si rg y)))), (rB, .inl (E.2 1, 8, .inl (nA (updN Ba rg bl)))), (rP, .inl (E.2 1, 8, .inl (nA (updN Sm rg pp)))), (rG, .inl (E.2 1, 8, .inl (nA (updN Gr rg qq))))] := hD.sub [0, 1, 2, 3, 4] (by decide) rfl
  exact W.iret (v := nI ((rg + 1) - 1)) hx hb hr (fun t9 ht9 hW9 => ⟨⟨nI ((rg + 1) - 1), (), rfl, rfl, ⟨by rw [ht9]; exact hP9, hD9⟩⟩, hS.F ht9⟩) hS.2.2 dX9_ring_128
set_option maxHeartbeats 1000000 in
set_option maxRecDepth 100000 in
theorem c_X9_speed (l : Launch) (E : EnvT) (m0 : Nat) (sh : Nat) (rO : Nat) (rU : Nat) (rT : Nat) (rg : Int32) (rS : Nat) (rB : Nat) (rP : Nat) (rG : Nat) (ab0 : Int64) (be0 : Int64) (mk : Int32) (rM : Nat) (md : Int32) (rN : Nat) (rL : Nat) (rZ : Nat) (rE : Nat) (rI : Nat) (hc : Int32) (rA : Nat) (rX : Nat) (lnn : Int32) (rV : Nat) (rW : Nat) (sl : Int32) (rC : Nat) (rF : Nat) (rQ : Nat) (rK : Nat) (rR : Nat) (rD : Nat) (U : Nat → Nat) (V : Nat → Nat) (nu : Int32) (wt : Int32) (hs1 : 1 ≤ sh) (hs4 : sh ≤ 4) : Met l yX9_speed wsX9_speed ({ frames := 1, cells := 0, slots := 0, locals := 25 }) (va_Pc [.ref m0, .int nu, .int wt] (PR E [(m0, .inr (9, [.int (nI sh), .ref rO, .ref rU, .ref rT, .int rg, .ref rS, .ref rB, .ref rP, .ref rG, .long ab0, .long be0, .int mk, .ref rM, .int md, .ref rN, .ref rL, .ref rZ, .ref rE, .ref rI, .int hc, .ref rA, .ref rX, .int lnn, .ref rV, .ref rW, .int sl, .ref rC, .ref rF, .ref rQ, .ref rK, .ref rR, .ref rD])), (rO, .inl (E.2 2, 4, .inr (.inl (lA U)))), (rU, .inl (E.2 2, 4, .inr (.inl (lA V))))])) (vp_Sl (fun r => r = if (0 ≤ nu ∧ nu ≤ nI (sh - 1)) ∧ (0 ≤ wt ∧ wt ≤ 1) then (if wt = 0 then lN (U nu.toNatClampNeg) else lN (V nu.toNatClampNeg)) else -1)) 0 0 (fun _ => False) := by
  refine Met.ofW (cc := cX9_speed) (maxL := 3) (ret := (some .long)) (by decide +kernel) rfl ?_
  intro p e s m args below meth c s₁ B hml hv
  obtain ⟨rfl, hP, hE⟩ := hv
  have hx := B.exec
  have hb := B.bytes
  have hr := B.returns
  have hts := atoms_spec (ws := wsX9_speed) B.pre
  have hown : s.vm.findClass RX9 = some m.cls := findClass_of_methodNamed B.named
  have hlocks := B.notSynchronized
  have hK := hE.1
  have hNN := hE.2.1
  have hinX9 : ∀ w ∈ wsX90, w ∈ wsX9_speed := fun w h => List.mem_cons_of_mem _ (List.mem_append_right _ h)
  have hl := lv_entry ([.ref m0, .int nu, .int wt]) (n := 3) (Nat.le_of_ble_eq_true rfl)
  rw [lg_entry_eq]
  generalize (lg_sl ([.ref m0, .int nu, .int wt]) ++ List.replicate (3 - (lg_sl ([.ref m0, .int nu, .int wt])).length) Slot.unset).toArray = ls at hl ⊢
  have hl : lv_has ls 3 [(0, .ref m0), (1, .int nu), (2, .int wt)] := hl
  refine lv_iload_n hx hb dX9_speed_0 rfl (lv_at hl 1 rfl) ?_
  refine lv_i2l (v := nu.toInt64) hx hb dX9_speed_1 (rfl) ?_
  refine lv_lconst (v := 0) hx hb dX9_speed_2 (by decide) ?_
  refine lv_aload_n hx hb dX9_speed_3 rfl (lv_at hl 0 rfl) ?_
  refine va_get (D := E.1) (ci := 9) (v := .int (nI sh)) (C := RX9) (T := TX9) (N := 32) hx hb hts hinX9 hown hK hP 0 rfl rfl 0 (by decide) (hts (.fieldLink RX9 7 "WornRingsModel" "shafts" "I") (by decide +kernel)) (fun _ h9 => h9) rfl dX9_speed_4 ?_
  refine lv_iconst (v := 1) hx hb dX9_speed_7 (by decide) ?_
  refine lv_isub hx hb dX9_speed_8 ?_
  rw [show ((nI sh) - (1 : Int32) : Int32) = nI (sh - 1) from pk_sub (a := sh) (b := 1) (by omega)]
  refine lv_i2l (v := lN (sh - 1)) hx hb dX9_speed_9 (nI_l (by omega)) ?_
  refine rSi hE ⟨hx, hb, hml, hown, hts⟩ (c_X9_in l E nu.toInt64 0 (lN (sh - 1)) ) (va_cwS 3 hts gX9_speed_X9_in rfl rfl rfl (by decide +kernel) ⟨Nat.le_of_ble_eq_true rfl, Nat.le_of_ble_eq_true rfl⟩) (hP.sub [] rfl) rfl hl.1 rfl (Nat.le_of_ble_eq_true rfl) dX9_speed_10 ⟨(Nat.zero_le _), (Nat.zero_le _)⟩ ?_
  rw [show fIn nu.toInt64 0 (lN (sh - 1)) = fWi nu 0 (nI (sh - 1)) from fIn_c (rfl) (by decide) (nI_l (by omega))]
  refine lv_if_eq (tgt := 26) hx hb dX9_speed_13 (by decide) (fun c_13 => ?_) (fun c_13 => ?_)
  · have c_13 := fWi_0 c_13
    refine lv_ldc2 (v := (-1)) hx hb hown (hts (.constantLong RX9 117 (-1)) (by decide +kernel)) dX9_speed_26 ?_
    refine lv_goto (tgt := 51) hx hb dX9_speed_29 (by decide) ?_
    exact W.lret (v := (-1)) hx hb hr (fun t9 ht9 hW9 => ⟨(-1), rfl, by first | exact (if_neg (fun h9 => c_13 h9.1)).symm | exact (if_neg (fun h9 => c_23 h9.2)).symm | (rw [if_pos ⟨c_13, c_23⟩, if_pos c_33]; first | done | rfl) | (rw [if_pos ⟨c_13, c_23⟩, if_neg c_33]; first | done | rfl), ht9⟩) (fun _ h => absurd h List.not_mem_nil) dX9_speed_51
  · have c_13 := fWi_1 c_13
    refine lv_iload_n hx hb dX9_speed_16 rfl (lv_at hl 2 rfl) ?_
    refine lv_i2l (v := wt.toInt64) hx hb dX9_speed_17 (rfl) ?_
    refine lv_lconst (v := 0) hx hb dX9_speed_18 (by decide) ?_
    refine lv_lconst (v := 1) hx hb dX9_speed_19 (by decide) ?_
    refine rSi hE ⟨hx, hb, hml, hown, hts⟩ (c_X9_in l E wt.toInt64 0 1 ) (va_cwS 3 hts gX9_speed_X9_in rfl rfl rfl (by decide +kernel) ⟨Nat.le_of_ble_eq_true rfl, Nat.le_of_ble_eq_true rfl⟩) (hP.sub [] rfl) rfl hl.1 rfl (Nat.le_of_ble_eq_true rfl) dX9_speed_20 ⟨(Nat.zero_le _), (Nat.zero_le _)⟩ ?_
    rw [show fIn wt.toInt64 0 1 = fWi wt 0 1 from fIn_c (rfl) (by decide) (by decide)]
    refine lv_if_ne (tgt := 32) hx hb dX9_speed_23 (by decide) (fun c_23 => ?_) (fun c_23 => ?_)
    · have c_23 := fWi_1 c_23
      obtain ⟨k, hk9, rfl⟩ : ∃ k : Nat, k ≤ sh - 1 ∧ nu = nI k := nI_of2 (nI_toInt (by omega)) (Int32.not_lt.mpr c_13.1) c_13.2
      refine lv_iload_n hx hb dX9_speed_32 rfl (lv_at hl 2 rfl) ?_
      refine lv_if_ne (tgt := 45) hx hb dX9_speed_33 (by decide) (fun c_33 => ?_) (fun c_33 => ?_)
      · refine lv_aload_n hx hb dX9_speed_45 rfl (lv_at hl 0 rfl) ?_
        refine va_get (D := E.1) (ci := 9) (v := .ref rU) (C := RX9) (T := TX9) (N := 32) hx hb hts hinX9 hown hK hP 0 rfl rfl 2 (by decide) (hts (.fieldLink RX9 17 "WornRingsModel" "under" "[J") (by decide +kernel)) (fun _ h9 => h9) rfl dX9_speed_46 ?_
        refine lv_iload_n hx hb dX9_speed_49 rfl (lv_at hl 1 rfl) ?_
        refine va_lald hx hb hK hP 2 2 rfl rfl (vp_in_nI (by omega) (by omega)) dX9_speed_50 ?_
        rw [nI_clamp (n := k) (by omega)]
        refine W.eq (g2 := F0 m 51 ls [.long (lN (V k))]) rfl ?_
        exact W.lret (v := lN (V k)) hx hb hr (fun t9 ht9 hW9 => ⟨lN (V k), rfl, by first | exact (if_neg (fun h9 => c_13 h9.1)).symm | exact (if_neg (fun h9 => c_23 h9.2)).symm | (rw [if_pos ⟨c_13, c_23⟩, if_pos c_33]; first | done | rfl) | (rw [if_pos ⟨c_13, c_23⟩, if_neg c_33]; first | done | rfl), ht9⟩) (fun _ h => absurd h List.not_mem_nil) dX9_speed_51
      · refine lv_aload_n hx hb dX9_speed_36 rfl (lv_at hl 0 rfl) ?_
        refine va_get (D := E.1) (ci := 9) (v := .ref rO) (C := RX9) (T := TX9) (N := 32) hx hb hts hinX9 hown hK hP 0 rfl rfl 1 (by decide) (hts (.fieldLink RX9 13 "WornRingsModel" "over" "[J") (by decide +kernel)) (fun _ h9 => h9) rfl dX9_speed_37 ?_
        refine lv_iload_n hx hb dX9_speed_40 rfl (lv_at hl 1 rfl) ?_
        refine va_lald hx hb hK hP 1 2 rfl rfl (vp_in_nI (by omega) (by omega)) dX9_speed_41 ?_
        rw [nI_clamp (n := k) (by omega)]
        refine W.eq (g2 := F0 m 42 ls [.long (lN (U k))]) rfl ?_
        refine lv_goto (tgt := 51) hx hb dX9_speed_42 (by decide) ?_
        exact W.lret (v := lN (U k)) hx hb hr (fun t9 ht9 hW9 => ⟨lN (U k), rfl, by first | exact (if_neg (fun h9 => c_13 h9.1)).symm | exact (if_neg (fun h9 => c_23 h9.2)).symm | (rw [if_pos ⟨c_13, c_23⟩, if_pos c_33]; first | done | rfl) | (rw [if_pos ⟨c_13, c_23⟩, if_neg c_33]; first | done | rfl), ht9⟩) (fun _ h => absurd h List.not_mem_nil) dX9_speed_51
    · have c_23 := fWi_0 c_23
      refine lv_ldc2 (v := (-1)) hx hb hown (hts (.constantLong RX9 117 (-1)) (by decide +kernel)) dX9_speed_26 ?_
      refine lv_goto (tgt := 51) hx hb dX9_speed_29 (by decide) ?_
      exact W.lret (v := (-1)) hx hb hr (fun t9 ht9 hW9 => ⟨(-1), rfl, by first | exact (if_neg (fun h9 => c_13 h9.1)).symm | exact (if_neg (fun h9 => c_23 h9.2)).symm | (rw [if_pos ⟨c_13, c_23⟩, if_pos c_33]; first | done | rfl) | (rw [if_pos ⟨c_13, c_23⟩, if_neg c_33]; first | done | rfl), ht9⟩) (fun _ h => absurd h List.not_mem_nil) dX9_speed_51
set_option maxHeartbeats 1000000 in
set_option maxRecDepth 100000 in
theorem c_X9_parts (l : Launch) (E : EnvT) (m0 : Nat) (sh : Nat) (rO : Nat) (rU : Nat) (rT : Nat) (rg : Nat) (rS : Nat) (rB : Nat) (rP : Nat) (rG : Nat) (ab0 : Int64) (be0 : Int64) (mk : Int32) (rM : Nat) (md : Int32) (rN : Nat) (rL : Nat) (rZ : Nat) (rE : Nat) (rI : Nat) (hc : Int32) (rA : Nat) (rX : Nat) (lnn : Int32) (rV : Nat) (rW : Nat) (sl : Int32) (rC : Nat) (rF : Nat) (rQ : Nat) (rK : Nat) (rR : Nat) (rD : Nat) (hs1 : 1 ≤ sh) : Met l yX9_parts wsX9_parts ({ frames := 0, cells := 0, slots := 0, locals := 0 }) (va_Pc [.ref m0] (PR E [(m0, .inr (9, [.int (nI sh), .ref rO, .ref rU, .ref rT, .int (nI rg), .ref rS, .ref rB, .ref rP, .ref rG, .long ab0, .long be0, .int mk, .ref rM, .int md, .ref rN, .ref rL, .ref rZ, .ref rE, .ref rI, .int hc, .ref rA, .ref rX, .int lnn, .ref rV, .ref rW, .int sl, .ref rC, .ref rF, .ref rQ, .ref rK, .ref rR, .ref rD]))])) (vp_Si (fun r => r = nI (2 * sh - 1 + 4 * rg))) 0 0 (fun _ => False) := by
  refine Met.ofW (cc := cX9_parts) (maxL := 1) (ret := (some .int)) (by decide +kernel) rfl ?_
  intro p e s m args below meth c s₁ B hml hv
  obtain ⟨rfl, hP, hE⟩ := hv
  have hx := B.exec
  have hb := B.bytes
  have hr := B.returns
  have hts := atoms_spec (ws := wsX9_parts) B.pre
  have hown : s.vm.findClass RX9 = some m.cls := findClass_of_methodNamed B.named
  have hlocks := B.notSynchronized
  have hK := hE.1
  have hNN := hE.2.1
  have hinX9 : ∀ w ∈ wsX90, w ∈ wsX9_parts := fun w h => List.mem_cons_of_mem _ (List.mem_append_right _ h)
  have hl := lv_entry ([.ref m0]) (n := 1) (Nat.le_of_ble_eq_true rfl)
  rw [lg_entry_eq]
  generalize (lg_sl ([.ref m0]) ++ List.replicate (1 - (lg_sl ([.ref m0])).length) Slot.unset).toArray = ls at hl ⊢
  have hl : lv_has ls 1 [(0, .ref m0)] := hl
  refine lv_iconst (v := 2) hx hb dX9_parts_0 (by decide) ?_
  refine lv_aload_n hx hb dX9_parts_1 rfl (lv_at hl 0 rfl) ?_
  refine va_get (D := E.1) (ci := 9) (v := .int (nI sh)) (C := RX9) (T := TX9) (N := 32) hx hb hts hinX9 hown hK hP 0 rfl rfl 0 (by decide) (hts (.fieldLink RX9 7 "WornRingsModel" "shafts" "I") (by decide +kernel)) (fun _ h9 => h9) rfl dX9_parts_2 ?_
  refine lv_imul hx hb dX9_parts_5 ?_
  rw [show ((2 : Int32) * (nI sh) : Int32) = nI (2 * sh) from pk_mul 2 sh]
  refine lv_iconst (v := 1) hx hb dX9_parts_6 (by decide) ?_
  refine lv_isub hx hb dX9_parts_7 ?_
  rw [show ((nI (2 * sh)) - (1 : Int32) : Int32) = nI ((2 * sh) - 1) from pk_sub (a := (2 * sh)) (b := 1) (by omega)]
  refine lv_iconst (v := 4) hx hb dX9_parts_8 (by decide) ?_
  refine lv_aload_n hx hb dX9_parts_9 rfl (lv_at hl 0 rfl) ?_
  refine va_get (D := E.1) (ci := 9) (v := .int (nI rg)) (C := RX9) (T := TX9) (N := 32) hx hb hts hinX9 hown hK hP 0 rfl rfl 4 (by decide) (hts (.fieldLink RX9 114 "WornRingsModel" "rings" "I") (by decide +kernel)) (fun _ h9 => h9) rfl dX9_parts_10 ?_
  refine lv_imul hx hb dX9_parts_13 ?_
  rw [show ((4 : Int32) * (nI rg) : Int32) = nI (4 * rg) from pk_mul 4 rg]
  refine lv_iadd hx hb dX9_parts_14 ?_
  rw [show ((nI ((2 * sh) - 1)) + (nI (4 * rg)) : Int32) = nI (((2 * sh) - 1) + (4 * rg)) from nI_add ((2 * sh) - 1) (4 * rg)]
  exact W.iret (v := nI (((2 * sh) - 1) + (4 * rg))) hx hb hr (fun t9 ht9 hW9 => ⟨nI (((2 * sh) - 1) + (4 * rg)), rfl, rfl, ht9⟩) (fun _ h => absurd h List.not_mem_nil) dX9_parts_15
set_option maxHeartbeats 1000000 in
set_option maxRecDepth 100000 in
theorem c_X9_isPart (l : Launch) (E : EnvT) (m0 : Nat) (sh : Nat) (rO : Nat) (rU : Nat) (rT : Nat) (rg : Nat) (rS : Nat) (rB : Nat) (rP : Nat) (rG : Nat) (ab0 : Int64) (be0 : Int64) (mk : Int32) (rM : Nat) (md : Int32) (rN : Nat) (rL : Nat) (rZ : Nat) (rE : Nat) (rI : Nat) (hc : Int32) (rA : Nat) (rX : Nat) (lnn : Int32) (rV : Nat) (rW : Nat) (sl : Int32) (rC : Nat) (rF : Nat) (rQ : Nat) (rK : Nat) (rR : Nat) (rD : Nat) (nu : Int32) (hs1 : 1 ≤ sh) (hs4 : sh ≤ 4) (hr8 : rg ≤ 8) : Met l yX9_isPart wsX9_isPart ({ frames := 1, cells := 0, slots := 0, locals := 25 }) (va_Pc [.ref m0, .int nu] (PR E [(m0, .inr (9, [.int (nI sh), .ref rO, .ref rU, .ref rT, .int (nI rg), .ref rS, .ref rB, .ref rP, .ref rG, .long ab0, .long be0, .int mk, .ref rM, .int md, .ref rN, .ref rL, .ref rZ, .ref rE, .ref rI, .int hc, .ref rA, .ref rX, .int lnn, .ref rV, .ref rW, .int sl, .ref rC, .ref rF, .ref rQ, .ref rK, .ref rR, .ref rD]))])) (vp_Si (fun r => r = fWi nu 0 (nI (2 * sh - 1 + 4 * rg - 1)))) 0 0 (fun _ => False) := by
  refine Met.ofW (cc := cX9_isPart) (maxL := 2) (ret := (some .boolean)) (by decide +kernel) rfl ?_
  intro p e s m args below meth c s₁ B hml hv
  obtain ⟨rfl, hP, hE⟩ := hv
  have hx := B.exec
  have hb := B.bytes
  have hr := B.returns
  have hts := atoms_spec (ws := wsX9_isPart) B.pre
  have hown : s.vm.findClass RX9 = some m.cls := findClass_of_methodNamed B.named
  have hlocks := B.notSynchronized
  have hK := hE.1
  have hNN := hE.2.1
  have hl := lv_entry ([.ref m0, .int nu]) (n := 2) (Nat.le_of_ble_eq_true rfl)
  rw [lg_entry_eq]
  generalize (lg_sl ([.ref m0, .int nu]) ++ List.replicate (2 - (lg_sl ([.ref m0, .int nu])).length) Slot.unset).toArray = ls at hl ⊢
  have hl : lv_has ls 2 [(0, .ref m0), (1, .int nu)] := hl
  refine lv_iload_n hx hb dX9_isPart_0 rfl (lv_at hl 1 rfl) ?_
  refine lv_i2l (v := nu.toInt64) hx hb dX9_isPart_1 (rfl) ?_
  refine lv_lconst (v := 0) hx hb dX9_isPart_2 (by decide) ?_
  refine lv_aload_n hx hb dX9_isPart_3 rfl (lv_at hl 0 rfl) ?_
  refine rVi hE ⟨hx, hb, hml, hown, hts⟩ (c_X9_parts l E m0 sh rO rU rT rg rS rB rP rG ab0 be0 mk rM md rN rL rZ rE rI hc rA rX lnn rV rW sl rC rF rQ rK rR rD (hs1)) (cwV 0 hts gX9_isPart_X9_parts rfl rfl rfl (by decide +kernel) ⟨Nat.le_of_ble_eq_true rfl, Nat.le_of_ble_eq_true rfl⟩) (hP.sub [0] rfl) 0 9 rfl rfl rfl hl.1 rfl (Nat.le_of_ble_eq_true rfl) dX9_isPart_4 ⟨(Nat.zero_le _), (Nat.zero_le _)⟩ ?_
  refine lv_iconst (v := 1) hx hb dX9_isPart_7 (by decide) ?_
  refine lv_isub hx hb dX9_isPart_8 ?_
  rw [show ((nI (2 * sh - 1 + 4 * rg)) - (1 : Int32) : Int32) = nI ((2 * sh - 1 + 4 * rg) - 1) from pk_sub (a := (2 * sh - 1 + 4 * rg)) (b := 1) (by omega)]
  refine lv_i2l (v := lN ((2 * sh - 1 + 4 * rg) - 1)) hx hb dX9_isPart_9 (nI_l (by omega)) ?_
  refine rSi hE ⟨hx, hb, hml, hown, hts⟩ (c_X9_in l E nu.toInt64 0 (lN ((2 * sh - 1 + 4 * rg) - 1)) ) (va_cwS 3 hts gX9_isPart_X9_in rfl rfl rfl (by decide +kernel) ⟨Nat.le_of_ble_eq_true rfl, Nat.le_of_ble_eq_true rfl⟩) (hP.sub [] rfl) rfl hl.1 rfl (Nat.le_of_ble_eq_true rfl) dX9_isPart_10 ⟨(Nat.zero_le _), (Nat.zero_le _)⟩ ?_
  rw [show fIn nu.toInt64 0 (lN ((2 * sh - 1 + 4 * rg) - 1)) = fWi nu 0 (nI ((2 * sh - 1 + 4 * rg) - 1)) from fIn_c (rfl) (by decide) (nI_l (by omega))]
  exact W.zret (v := fWi nu 0 (nI ((2 * sh - 1 + 4 * rg) - 1))) hx hb hr (fWi_nar _ _ _) (fun t9 ht9 hW9 => ⟨fWi nu 0 (nI ((2 * sh - 1 + 4 * rg) - 1)), rfl, rfl, ht9⟩) (fun _ h => absurd h List.not_mem_nil) dX9_isPart_13
set_option maxHeartbeats 1000000 in
set_option maxRecDepth 100000 in
theorem c_X9_kindOf (l : Launch) (E : EnvT) (m0 : Nat) (sh : Nat) (rO : Nat) (rU : Nat) (rT : Nat) (rg : Nat) (rS : Nat) (rB : Nat) (rP : Nat) (rG : Nat) (ab0 : Int64) (be0 : Int64) (mk : Int32) (rM : Nat) (md : Int32) (rN : Nat) (rL : Nat) (rZ : Nat) (rE : Nat) (rI : Nat) (hc : Int32) (rA : Nat) (rX : Nat) (lnn : Int32) (rV : Nat) (rW : Nat) (sl : Int32) (rC : Nat) (rF : Nat) (rQ : Nat) (rK : Nat) (rR : Nat) (rD : Nat) (k : Nat) (hs1 : 1 ≤ sh) (hs4 : sh ≤ 4) (hr8 : rg ≤ 8) (hk : k < 2 * sh - 1 + 4 * rg) : Met l yX9_kindOf wsX9_kindOf ({ frames := 0, cells := 0, slots := 0, locals := 0 }) (va_Pc [.ref m0, .int (nI k)] (PR E [(m0, .inr (9, [.int (nI sh), .ref rO, .ref rU, .ref rT, .int (nI rg), .ref rS, .ref rB, .ref rP, .ref rG, .long ab0, .long be0, .int mk, .ref rM, .int md, .ref rN, .ref rL, .ref rZ, .ref rE, .ref rI, .int hc, .ref rA, .ref rX, .int lnn, .ref rV, .ref rW, .int sl, .ref rC, .ref rF, .ref rQ, .ref rK, .ref rR, .ref rD]))])) (vp_Si (fun r => r = nI (kdN sh k))) 0 0 (fun _ => False) := by
  refine Met.ofW (cc := cX9_kindOf) (maxL := 2) (ret := (some .int)) (by decide +kernel) rfl ?_
  intro p e s m args below meth c s₁ B hml hv
  obtain ⟨rfl, hP, hE⟩ := hv
  have hx := B.exec
  have hb := B.bytes
  have hr := B.returns
  have hts := atoms_spec (ws := wsX9_kindOf) B.pre
  have hown : s.vm.findClass RX9 = some m.cls := findClass_of_methodNamed B.named
  have hlocks := B.notSynchronized
  have hK := hE.1
  have hNN := hE.2.1
  have hinX9 : ∀ w ∈ wsX90, w ∈ wsX9_kindOf := fun w h => List.mem_cons_of_mem _ (List.mem_append_right _ h)
  have hl := lv_entry ([.ref m0, .int (nI k)]) (n := 2) (Nat.le_of_ble_eq_true rfl)
  rw [lg_entry_eq]
  generalize (lg_sl ([.ref m0, .int (nI k)]) ++ List.replicate (2 - (lg_sl ([.ref m0, .int (nI k)])).length) Slot.unset).toArray = ls at hl ⊢
  have hl : lv_has ls 2 [(0, .ref m0), (1, .int (nI k))] := hl
  refine lv_iload_n hx hb dX9_kindOf_0 rfl (lv_at hl 1 rfl) ?_
  refine lv_aload_n hx hb dX9_kindOf_1 rfl (lv_at hl 0 rfl) ?_
  refine va_get (D := E.1) (ci := 9) (v := .int (nI sh)) (C := RX9) (T := TX9) (N := 32) hx hb hts hinX9 hown hK hP 0 rfl rfl 0 (by decide) (hts (.fieldLink RX9 7 "WornRingsModel" "shafts" "I") (by decide +kernel)) (fun _ h9 => h9) rfl dX9_kindOf_2 ?_
  refine lv_icmp_ge (tgt := 12) hx hb dX9_kindOf_5 (by decide) (fun c_5 => ?_) (fun c_5 => ?_)
  · have c_5 : sh ≤ k := (nI_leI (a := sh) (b := k) (by omega) (by omega)).mp c_5
    refine lv_iload_n hx hb dX9_kindOf_12 rfl (lv_at hl 1 rfl) ?_
    refine lv_iconst (v := 2) hx hb dX9_kindOf_13 (by decide) ?_
    refine lv_aload_n hx hb dX9_kindOf_14 rfl (lv_at hl 0 rfl) ?_
    refine va_get (D := E.1) (ci := 9) (v := .int (nI sh)) (C := RX9) (T := TX9) (N := 32) hx hb hts hinX9 hown hK hP 0 rfl rfl 0 (by decide) (hts (.fieldLink RX9 7 "WornRingsModel" "shafts" "I") (by decide +kernel)) (fun _ h9 => h9) rfl dX9_kindOf_15 ?_
    refine lv_imul hx hb dX9_kindOf_18 ?_
    rw [show ((2 : Int32) * (nI sh) : Int32) = nI (2 * sh) from pk_mul 2 sh]
    refine lv_iconst (v := 1) hx hb dX9_kindOf_19 (by decide) ?_
    refine lv_isub hx hb dX9_kindOf_20 ?_
    rw [show ((nI (2 * sh)) - (1 : Int32) : Int32) = nI ((2 * sh) - 1) from pk_sub (a := (2 * sh)) (b := 1) (by omega)]
    refine lv_icmp_ge (tgt := 28) hx hb dX9_kindOf_21 (by decide) (fun c_21 => ?_) (fun c_21 => ?_)
    · have c_21 : ((2 * sh) - 1) ≤ k := (nI_leI (a := (2 * sh) - 1) (b := k) (by omega) (by omega)).mp c_21
      refine lv_iconst (v := 2) hx hb dX9_kindOf_28 (by decide) ?_
      refine lv_iload_n hx hb dX9_kindOf_29 rfl (lv_at hl 1 rfl) ?_
      refine lv_iconst (v := 2) hx hb dX9_kindOf_30 (by decide) ?_
      refine lv_aload_n hx hb dX9_kindOf_31 rfl (lv_at hl 0 rfl) ?_
      refine va_get (D := E.1) (ci := 9) (v := .int (nI sh)) (C := RX9) (T := TX9) (N := 32) hx hb hts hinX9 hown hK hP 0 rfl rfl 0 (by decide) (hts (.fieldLink RX9 7 "WornRingsModel" "shafts" "I") (by decide +kernel)) (fun _ h9 => h9) rfl dX9_kindOf_32 ?_
      refine lv_imul hx hb dX9_kindOf_35 ?_
      rw [show ((2 : Int32) * (nI sh) : Int32) = nI (2 * sh) from pk_mul 2 sh]
      refine lv_isub hx hb dX9_kindOf_36 ?_
      refine lv_iconst (v := 1) hx hb dX9_kindOf_37 (by decide) ?_
      refine lv_iadd hx hb dX9_kindOf_38 ?_
      rw [show (((nI k) - (nI (2 * sh))) + 1 : Int32) = nI (k + 1 - 2 * sh) from kx (by omega)]
      refine lv_iconst (v := 4) hx hb dX9_kindOf_39 (by decide) ?_
      refine lv_irem hx hb dX9_kindOf_40 (by decide) ?_
      rw [show ((nI (k + 1 - 2 * sh)) - (nI (k + 1 - 2 * sh)) / (4 : Int32) * (4 : Int32) : Int32) = nI ((k + 1 - 2 * sh) % 4) from pk_rem (a := k + 1 - 2 * sh) (d := 4) (by omega) (by omega) (by omega)]
      refine lv_iadd hx hb dX9_kindOf_41 ?_
      rw [show ((2 : Int32) + (nI ((k + 1 - 2 * sh) % 4)) : Int32) = nI (2 + ((k + 1 - 2 * sh) % 4)) from nI_add 2 ((k + 1 - 2 * sh) % 4)]
      exact W.iret (v := nI (2 + ((k + 1 - 2 * sh) % 4))) hx hb hr (fun t9 ht9 hW9 => ⟨nI (2 + ((k + 1 - 2 * sh) % 4)), rfl, by first | (rw [kdN, if_pos (by omega)]; first | done | rfl) | (rw [kdN, if_neg (by omega), if_pos (by omega)]; first | done | rfl) | (rw [kdN, if_neg (by omega), if_neg (by omega)]; first | done | rfl), ht9⟩) (fun _ h => absurd h List.not_mem_nil) dX9_kindOf_42
    · have c_21 : ¬ ((2 * sh) - 1) ≤ k := fun h9 => c_21 ((nI_leI (a := (2 * sh) - 1) (b := k) (by omega) (by omega)).mpr h9)
      refine lv_iconst (v := 1) hx hb dX9_kindOf_24 (by decide) ?_
      refine lv_goto (tgt := 42) hx hb dX9_kindOf_25 (by decide) ?_
      exact W.iret (v := 1) hx hb hr (fun t9 ht9 hW9 => ⟨1, rfl, by first | (rw [kdN, if_pos (by omega)]; first | done | rfl) | (rw [kdN, if_neg (by omega), if_pos (by omega)]; first | done | rfl) | (rw [kdN, if_neg (by omega), if_neg (by omega)]; first | done | rfl), ht9⟩) (fun _ h => absurd h List.not_mem_nil) dX9_kindOf_42
  · have c_5 : ¬ sh ≤ k := fun h9 => c_5 ((nI_leI (a := sh) (b := k) (by omega) (by omega)).mpr h9)
    refine lv_iconst (v := 0) hx hb dX9_kindOf_8 (by decide) ?_
    refine lv_goto (tgt := 42) hx hb dX9_kindOf_9 (by decide) ?_
    exact W.iret (v := 0) hx hb hr (fun t9 ht9 hW9 => ⟨0, rfl, by first | (rw [kdN, if_pos (by omega)]; first | done | rfl) | (rw [kdN, if_neg (by omega), if_pos (by omega)]; first | done | rfl) | (rw [kdN, if_neg (by omega), if_neg (by omega)]; first | done | rfl), ht9⟩) (fun _ h => absurd h List.not_mem_nil) dX9_kindOf_42
set_option maxHeartbeats 1000000 in
set_option maxRecDepth 100000 in
theorem c_X9_ringOf (l : Launch) (E : EnvT) (m0 : Nat) (sh : Nat) (rO : Nat) (rU : Nat) (rT : Nat) (rg : Nat) (rS : Nat) (rB : Nat) (rP : Nat) (rG : Nat) (ab0 : Int64) (be0 : Int64) (mk : Int32) (rM : Nat) (md : Int32) (rN : Nat) (rL : Nat) (rZ : Nat) (rE : Nat) (rI : Nat) (hc : Int32) (rA : Nat) (rX : Nat) (lnn : Int32) (rV : Nat) (rW : Nat) (sl : Int32) (rC : Nat) (rF : Nat) (rQ : Nat) (rK : Nat) (rR : Nat) (rD : Nat) (k : Nat) (hs1 : 1 ≤ sh) (hs4 : sh ≤ 4) (hr8 : rg ≤ 8) (hk : k < 2 * sh - 1 + 4 * rg) (hk2 : 2 * sh - 1 ≤ k) : Met l yX9_ringOf wsX9_ringOf ({ frames := 0, cells := 0, slots := 0, locals := 0 }) (va_Pc [.ref m0, .int (nI k)] (PR E [(m0, .inr (9, [.int (nI sh), .ref rO, .ref rU, .ref rT, .int (nI rg), .ref rS, .ref rB, .ref rP, .ref rG, .long ab0, .long be0, .int mk, .ref rM, .int md, .ref rN, .ref rL, .ref rZ, .ref rE, .ref rI, .int hc, .ref rA, .ref rX, .int lnn, .ref rV, .ref rW, .int sl, .ref rC, .ref rF, .ref rQ, .ref rK, .ref rR, .ref rD]))])) (vp_Si (fun r => r = nI (rgN sh k))) 0 0 (fun _ => False) := by
  refine Met.ofW (cc := cX9_ringOf) (maxL := 2) (ret := (some .int)) (by decide +kernel) rfl ?_
  intro p e s m args below meth c s₁ B hml hv
  obtain ⟨rfl, hP, hE⟩ := hv
  have hx := B.exec
  have hb := B.bytes
  have hr := B.returns
  have hts := atoms_spec (ws := wsX9_ringOf) B.pre
  have hown : s.vm.findClass RX9 = some m.cls := findClass_of_methodNamed B.named
  have hlocks := B.notSynchronized
  have hK := hE.1
  have hNN := hE.2.1
  have hinX9 : ∀ w ∈ wsX90, w ∈ wsX9_ringOf := fun w h => List.mem_cons_of_mem _ (List.mem_append_right _ h)
  have hl := lv_entry ([.ref m0, .int (nI k)]) (n := 2) (Nat.le_of_ble_eq_true rfl)
  rw [lg_entry_eq]
  generalize (lg_sl ([.ref m0, .int (nI k)]) ++ List.replicate (2 - (lg_sl ([.ref m0, .int (nI k)])).length) Slot.unset).toArray = ls at hl ⊢
  have hl : lv_has ls 2 [(0, .ref m0), (1, .int (nI k))] := hl
  refine lv_iload_n hx hb dX9_ringOf_0 rfl (lv_at hl 1 rfl) ?_
  refine lv_iconst (v := 2) hx hb dX9_ringOf_1 (by decide) ?_
  refine lv_aload_n hx hb dX9_ringOf_2 rfl (lv_at hl 0 rfl) ?_
  refine va_get (D := E.1) (ci := 9) (v := .int (nI sh)) (C := RX9) (T := TX9) (N := 32) hx hb hts hinX9 hown hK hP 0 rfl rfl 0 (by decide) (hts (.fieldLink RX9 7 "WornRingsModel" "shafts" "I") (by decide +kernel)) (fun _ h9 => h9) rfl dX9_ringOf_3 ?_
  refine lv_imul hx hb dX9_ringOf_6 ?_
  rw [show ((2 : Int32) * (nI sh) : Int32) = nI (2 * sh) from pk_mul 2 sh]
  refine lv_isub hx hb dX9_ringOf_7 ?_
  refine lv_iconst (v := 1) hx hb dX9_ringOf_8 (by decide) ?_
  refine lv_iadd hx hb dX9_ringOf_9 ?_
  rw [show (((nI k) - (nI (2 * sh))) + 1 : Int32) = nI (k + 1 - 2 * sh) from kx (by omega)]
  refine lv_iconst (v := 4) hx hb dX9_ringOf_10 (by decide) ?_
  refine lv_idiv hx hb dX9_ringOf_11 (by decide) ?_
  rw [show ((nI (k + 1 - 2 * sh)) / (4 : Int32) : Int32) = nI ((k + 1 - 2 * sh) / 4) from pk_div (a := k + 1 - 2 * sh) (d := 4) (by omega) (by omega) (by omega)]
  exact W.iret (v := nI ((k + 1 - 2 * sh) / 4)) hx hb hr (fun t9 ht9 hW9 => ⟨nI ((k + 1 - 2 * sh) / 4), rfl, rfl, ht9⟩) (fun _ h => absurd h List.not_mem_nil) dX9_ringOf_12
set_option maxHeartbeats 1000000 in
set_option maxRecDepth 100000 in
theorem c_X9_shaftOf (l : Launch) (E : EnvT) (m0 : Nat) (sh : Nat) (rO : Nat) (rU : Nat) (rT : Nat) (rg : Nat) (rS : Nat) (rB : Nat) (rP : Nat) (rG : Nat) (ab0 : Int64) (be0 : Int64) (mk : Int32) (rM : Nat) (md : Int32) (rN : Nat) (rL : Nat) (rZ : Nat) (rE : Nat) (rI : Nat) (hc : Int32) (rA : Nat) (rX : Nat) (lnn : Int32) (rV : Nat) (rW : Nat) (sl : Int32) (rC : Nat) (rF : Nat) (rQ : Nat) (rK : Nat) (rR : Nat) (rD : Nat) (Si : Nat → Nat) (k : Nat) (hs1 : 1 ≤ sh) (hs4 : sh ≤ 4) (hr8 : rg ≤ 8) (hk : k < 2 * sh - 1 + 4 * rg) : Met l yX9_shaftOf wsX9_shaftOf ({ frames := 1, cells := 0, slots := 0, locals := 21 }) (va_Pc [.ref m0, .int (nI k)] (PR E [(m0, .inr (9, [.int (nI sh), .ref rO, .ref rU, .ref rT, .int (nI rg), .ref rS, .ref rB, .ref rP, .ref rG, .long ab0, .long be0, .int mk, .ref rM, .int md, .ref rN, .ref rL, .ref rZ, .ref rE, .ref rI, .int hc, .ref rA, .ref rX, .int lnn, .ref rV, .ref rW, .int sl, .ref rC, .ref rF, .ref rQ, .ref rK, .ref rR, .ref rD])), (rS, .inl (E.2 1, 8, .inl (nA Si)))])) (vp_Si (fun r => r = nI (seN sh Si k))) 0 0 (fun _ => False) := by
  refine Met.ofW (cc := cX9_shaftOf) (maxL := 2) (ret := (some .int)) (by decide +kernel) rfl ?_
  intro p e s m args below meth c s₁ B hml hv
  obtain ⟨rfl, hP, hE⟩ := hv
  have hx := B.exec
  have hb := B.bytes
  have hr := B.returns
  have hts := atoms_spec (ws := wsX9_shaftOf) B.pre
  have hown : s.vm.findClass RX9 = some m.cls := findClass_of_methodNamed B.named
  have hlocks := B.notSynchronized
  have hK := hE.1
  have hNN := hE.2.1
  have hinX9 : ∀ w ∈ wsX90, w ∈ wsX9_shaftOf := fun w h => List.mem_cons_of_mem _ (List.mem_append_right _ h)
  have hl := lv_entry ([.ref m0, .int (nI k)]) (n := 2) (Nat.le_of_ble_eq_true rfl)
  rw [lg_entry_eq]
  generalize (lg_sl ([.ref m0, .int (nI k)]) ++ List.replicate (2 - (lg_sl ([.ref m0, .int (nI k)])).length) Slot.unset).toArray = ls at hl ⊢
  have hl : lv_has ls 2 [(0, .ref m0), (1, .int (nI k))] := hl
  refine lv_iload_n hx hb dX9_shaftOf_0 rfl (lv_at hl 1 rfl) ?_
  refine lv_aload_n hx hb dX9_shaftOf_1 rfl (lv_at hl 0 rfl) ?_
  refine va_get (D := E.1) (ci := 9) (v := .int (nI sh)) (C := RX9) (T := TX9) (N := 32) hx hb hts hinX9 hown hK hP 0 rfl rfl 0 (by decide) (hts (.fieldLink RX9 7 "WornRingsModel" "shafts" "I") (by decide +kernel)) (fun _ h9 => h9) rfl dX9_shaftOf_2 ?_
  refine lv_icmp_ge (tgt := 12) hx hb dX9_shaftOf_5 (by decide) (fun c_5 => ?_) (fun c_5 => ?_)
  · have c_5 : sh ≤ k := (nI_leI (a := sh) (b := k) (by omega) (by omega)).mp c_5
    refine lv_iload_n hx hb dX9_shaftOf_12 rfl (lv_at hl 1 rfl) ?_
    refine lv_iconst (v := 2) hx hb dX9_shaftOf_13 (by decide) ?_
    refine lv_aload_n hx hb dX9_shaftOf_14 rfl (lv_at hl 0 rfl) ?_
    refine va_get (D := E.1) (ci := 9) (v := .int (nI sh)) (C := RX9) (T := TX9) (N := 32) hx hb hts hinX9 hown hK hP 0 rfl rfl 0 (by decide) (hts (.fieldLink RX9 7 "WornRingsModel" "shafts" "I") (by decide +kernel)) (fun _ h9 => h9) rfl dX9_shaftOf_15 ?_
    refine lv_imul hx hb dX9_shaftOf_18 ?_
    rw [show ((2 : Int32) * (nI sh) : Int32) = nI (2 * sh) from pk_mul 2 sh]
    refine lv_iconst (v := 1) hx hb dX9_shaftOf_19 (by decide) ?_
    refine lv_isub hx hb dX9_shaftOf_20 ?_
    rw [show ((nI (2 * sh)) - (1 : Int32) : Int32) = nI ((2 * sh) - 1) from pk_sub (a := (2 * sh)) (b := 1) (by omega)]
    refine lv_icmp_ge (tgt := 35) hx hb dX9_shaftOf_21 (by decide) (fun c_21 => ?_) (fun c_21 => ?_)
    · have c_21 : ((2 * sh) - 1) ≤ k := (nI_leI (a := (2 * sh) - 1) (b := k) (by omega) (by omega)).mp c_21
      refine lv_aload_n hx hb dX9_shaftOf_35 rfl (lv_at hl 0 rfl) ?_
      refine va_get (D := E.1) (ci := 9) (v := .ref rS) (C := RX9) (T := TX9) (N := 32) hx hb hts hinX9 hown hK hP 0 rfl rfl 5 (by decide) (hts (.fieldLink RX9 24 "WornRingsModel" "sits" "[I") (by decide +kernel)) (fun _ h9 => h9) rfl dX9_shaftOf_36 ?_
      refine lv_aload_n hx hb dX9_shaftOf_39 rfl (lv_at hl 0 rfl) ?_
      refine lv_iload_n hx hb dX9_shaftOf_40 rfl (lv_at hl 1 rfl) ?_
      refine rVi hE ⟨hx, hb, hml, hown, hts⟩ (c_X9_ringOf l E m0 sh rO rU rT rg rS rB rP rG ab0 be0 mk rM md rN rL rZ rE rI hc rA rX lnn rV rW sl rC rF rQ rK rR rD k (hs1) (hs4) (hr8) (hk) (by omega)) (cwV 1 hts gX9_shaftOf_X9_ringOf rfl rfl rfl (by decide +kernel) ⟨Nat.le_of_ble_eq_true rfl, Nat.le_of_ble_eq_true rfl⟩) (hP.sub [0] rfl) 0 9 rfl rfl rfl hl.1 rfl (Nat.le_of_ble_eq_true rfl) dX9_shaftOf_41 ⟨(Nat.zero_le _), (Nat.zero_le _)⟩ ?_
      have h9 : rgN sh k < 8 := by unfold rgN; omega
      refine va_iald hx hb hK hP 1 1 rfl rfl (vp_in_nI (by omega) (by omega)) dX9_shaftOf_44 ?_
      rw [nI_clamp (n := rgN sh k) (by omega)]
      refine W.eq (g2 := F0 m 45 ls [.int (nI (Si (rgN sh k)))]) rfl ?_
      exact W.iret (v := nI (Si (rgN sh k))) hx hb hr (fun t9 ht9 hW9 => ⟨nI (Si (rgN sh k)), rfl, by first | (rw [seN, if_pos (by omega)]; first | done | rfl) | (rw [seN, if_neg (by omega), if_pos (by omega)]; first | done | rfl) | (rw [seN, if_neg (by omega), if_neg (by omega)]; first | done | rfl), ht9⟩) (fun _ h => absurd h List.not_mem_nil) dX9_shaftOf_45
    · have c_21 : ¬ ((2 * sh) - 1) ≤ k := fun h9 => c_21 ((nI_leI (a := (2 * sh) - 1) (b := k) (by omega) (by omega)).mpr h9)
      refine lv_iload_n hx hb dX9_shaftOf_24 rfl (lv_at hl 1 rfl) ?_
      refine lv_aload_n hx hb dX9_shaftOf_25 rfl (lv_at hl 0 rfl) ?_
      refine va_get (D := E.1) (ci := 9) (v := .int (nI sh)) (C := RX9) (T := TX9) (N := 32) hx hb hts hinX9 hown hK hP 0 rfl rfl 0 (by decide) (hts (.fieldLink RX9 7 "WornRingsModel" "shafts" "I") (by decide +kernel)) (fun _ h9 => h9) rfl dX9_shaftOf_26 ?_
      refine lv_isub hx hb dX9_shaftOf_29 ?_
      rw [show ((nI k) - (nI sh) : Int32) = nI (k - sh) from pk_sub (a := k) (b := sh) (by omega)]
      refine lv_iconst (v := 1) hx hb dX9_shaftOf_30 (by decide) ?_
      refine lv_iadd hx hb dX9_shaftOf_31 ?_
      rw [show ((nI (k - sh)) + (1 : Int32) : Int32) = nI ((k - sh) + 1) from nI_add (k - sh) 1]
      refine lv_goto (tgt := 45) hx hb dX9_shaftOf_32 (by decide) ?_
      exact W.iret (v := nI ((k - sh) + 1)) hx hb hr (fun t9 ht9 hW9 => ⟨nI ((k - sh) + 1), rfl, by first | (rw [seN, if_pos (by omega)]; first | done | rfl) | (rw [seN, if_neg (by omega), if_pos (by omega)]; first | done | rfl) | (rw [seN, if_neg (by omega), if_neg (by omega)]; first | done | rfl), ht9⟩) (fun _ h => absurd h List.not_mem_nil) dX9_shaftOf_45
  · have c_5 : ¬ sh ≤ k := fun h9 => c_5 ((nI_leI (a := sh) (b := k) (by omega) (by omega)).mpr h9)
    refine lv_iload_n hx hb dX9_shaftOf_8 rfl (lv_at hl 1 rfl) ?_
    refine lv_goto (tgt := 45) hx hb dX9_shaftOf_9 (by decide) ?_
    exact W.iret (v := nI k) hx hb hr (fun t9 ht9 hW9 => ⟨nI k, rfl, by first | (rw [seN, if_pos (by omega)]; first | done | rfl) | (rw [seN, if_neg (by omega), if_pos (by omega)]; first | done | rfl) | (rw [seN, if_neg (by omega), if_neg (by omega)]; first | done | rfl), ht9⟩) (fun _ h => absurd h List.not_mem_nil) dX9_shaftOf_45
set_option maxHeartbeats 1000000 in
set_option maxRecDepth 100000 in
theorem c_X9_tonesOf (l : Launch) (E : EnvT) (m0 : Nat) (sh : Nat) (rO : Nat) (rU : Nat) (rT : Nat) (rg : Nat) (rS : Nat) (rB : Nat) (rP : Nat) (rG : Nat) (ab0 : Int64) (be0 : Int64) (mk : Int32) (rM : Nat) (md : Int32) (rN : Nat) (rL : Nat) (rZ : Nat) (rE : Nat) (rI : Nat) (hc : Int32) (rA : Nat) (rX : Nat) (lnn : Int32) (rV : Nat) (rW : Nat) (sl : Int32) (rC : Nat) (rF : Nat) (rQ : Nat) (rK : Nat) (rR : Nat) (rD : Nat) (k : Nat) (hs1 : 1 ≤ sh) (hs4 : sh ≤ 4) (hr8 : rg ≤ 8) (hk : k < 2 * sh - 1 + 4 * rg) : Met l yX9_tonesOf wsX9_tonesOf ({ frames := 1, cells := 0, slots := 0, locals := 21 }) (va_Pc [.ref m0, .int (nI k)] (PR E [(m0, .inr (9, [.int (nI sh), .ref rO, .ref rU, .ref rT, .int (nI rg), .ref rS, .ref rB, .ref rP, .ref rG, .long ab0, .long be0, .int mk, .ref rM, .int md, .ref rN, .ref rL, .ref rZ, .ref rE, .ref rI, .int hc, .ref rA, .ref rX, .int lnn, .ref rV, .ref rW, .int sl, .ref rC, .ref rF, .ref rQ, .ref rK, .ref rR, .ref rD]))])) (vp_Si (fun r => r = nI (tnN sh k))) 0 0 (fun _ => False) := by
  refine Met.ofW (cc := cX9_tonesOf) (maxL := 3) (ret := (some .int)) (by decide +kernel) rfl ?_
  intro p e s m args below meth c s₁ B hml hv
  obtain ⟨rfl, hP, hE⟩ := hv
  have hx := B.exec
  have hb := B.bytes
  have hr := B.returns
  have hts := atoms_spec (ws := wsX9_tonesOf) B.pre
  have hown : s.vm.findClass RX9 = some m.cls := findClass_of_methodNamed B.named
  have hlocks := B.notSynchronized
  have hK := hE.1
  have hNN := hE.2.1
  have hl := lv_entry ([.ref m0, .int (nI k)]) (n := 3) (Nat.le_of_ble_eq_true rfl)
  rw [lg_entry_eq]
  generalize (lg_sl ([.ref m0, .int (nI k)]) ++ List.replicate (3 - (lg_sl ([.ref m0, .int (nI k)])).length) Slot.unset).toArray = ls at hl ⊢
  have hl : lv_has ls 3 [(0, .ref m0), (1, .int (nI k))] := hl
  refine lv_aload_n hx hb dX9_tonesOf_0 rfl (lv_at hl 0 rfl) ?_
  refine lv_iload_n hx hb dX9_tonesOf_1 rfl (lv_at hl 1 rfl) ?_
  refine rVi hE ⟨hx, hb, hml, hown, hts⟩ (c_X9_kindOf l E m0 sh rO rU rT rg rS rB rP rG ab0 be0 mk rM md rN rL rZ rE rI hc rA rX lnn rV rW sl rC rF rQ rK rR rD k (hs1) (hs4) (hr8) (hk)) (cwV 1 hts gX9_tonesOf_X9_kindOf rfl rfl rfl (by decide +kernel) ⟨Nat.le_of_ble_eq_true rfl, Nat.le_of_ble_eq_true rfl⟩) (hP.sub [0] rfl) 0 9 rfl rfl rfl hl.1 rfl (Nat.le_of_ble_eq_true rfl) dX9_tonesOf_2 ⟨(Nat.zero_le _), (Nat.zero_le _)⟩ ?_
  have h9 := kdN_lt (sh := sh) (k := k)
  refine lv_istore_n (lv' := [(2, .int (nI (kdN sh k))), (0, .ref m0), (1, .int (nI k))]) hx hb dX9_tonesOf_5 rfl hl (by decide) rfl (fun ls hl => ?_)
  refine lv_iload_n hx hb dX9_tonesOf_6 rfl (lv_at hl 0 rfl) ?_
  refine lv_if_eq (tgt := 15) hx hb dX9_tonesOf_7 (by decide) (fun c_7 => ?_) (fun c_7 => ?_)
  · have c_7 : (kdN sh k) = 0 := (nI_eq (a := kdN sh k) (b := 0) (by omega) (by omega)).mp c_7
    refine lv_iconst (v := 3) hx hb dX9_tonesOf_15 (by decide) ?_
    refine lv_goto (tgt := 29) hx hb dX9_tonesOf_16 (by decide) ?_
    exact W.iret (v := 3) hx hb hr (fun t9 ht9 hW9 => ⟨3, rfl, by first | (rw [tnN, if_pos (by omega)]; first | done | rfl) | (rw [tnN, if_neg (by omega), if_pos (by omega)]; first | done | rfl) | (rw [tnN, if_neg (by omega), if_neg (by omega)]; first | done | rfl), ht9⟩) (fun _ h => absurd h List.not_mem_nil) dX9_tonesOf_29
  · have c_7 : ¬ (kdN sh k) = 0 := fun h9 => c_7 ((nI_eq (a := kdN sh k) (b := 0) (by omega) (by omega)).mpr h9)
    refine lv_iload_n hx hb dX9_tonesOf_10 rfl (lv_at hl 0 rfl) ?_
    refine lv_iconst (v := 3) hx hb dX9_tonesOf_11 (by decide) ?_
    refine lv_icmp_ne (tgt := 19) hx hb dX9_tonesOf_12 (by decide) (fun c_12 => ?_) (fun c_12 => ?_)
    · have c_12 : ¬ (kdN sh k) = 3 := fun h9 => c_12 ((nI_eq (a := kdN sh k) (b := 3) (by omega) (by omega)).mpr h9)
      refine lv_iload_n hx hb dX9_tonesOf_19 rfl (lv_at hl 0 rfl) ?_
      refine lv_iconst (v := 4) hx hb dX9_tonesOf_20 (by decide) ?_
      refine lv_icmp_ne (tgt := 28) hx hb dX9_tonesOf_21 (by decide) (fun c_21 => ?_) (fun c_21 => ?_)
      · have c_21 : ¬ (kdN sh k) = 4 := fun h9 => c_21 ((nI_eq (a := kdN sh k) (b := 4) (by omega) (by omega)).mpr h9)
        refine lv_iconst (v := 2) hx hb dX9_tonesOf_28 (by decide) ?_
        exact W.iret (v := 2) hx hb hr (fun t9 ht9 hW9 => ⟨2, rfl, by first | (rw [tnN, if_pos (by omega)]; first | done | rfl) | (rw [tnN, if_neg (by omega), if_pos (by omega)]; first | done | rfl) | (rw [tnN, if_neg (by omega), if_neg (by omega)]; first | done | rfl), ht9⟩) (fun _ h => absurd h List.not_mem_nil) dX9_tonesOf_29
      · have c_21 : (kdN sh k) = 4 := (nI_eq (a := kdN sh k) (b := 4) (by omega) (by omega)).mp c_21
        refine lv_iconst (v := 1) hx hb dX9_tonesOf_24 (by decide) ?_
        refine lv_goto (tgt := 29) hx hb dX9_tonesOf_25 (by decide) ?_
        exact W.iret (v := 1) hx hb hr (fun t9 ht9 hW9 => ⟨1, rfl, by first | (rw [tnN, if_pos (by omega)]; first | done | rfl) | (rw [tnN, if_neg (by omega), if_pos (by omega)]; first | done | rfl) | (rw [tnN, if_neg (by omega), if_neg (by omega)]; first | done | rfl), ht9⟩) (fun _ h => absurd h List.not_mem_nil) dX9_tonesOf_29
    · have c_12 : (kdN sh k) = 3 := (nI_eq (a := kdN sh k) (b := 3) (by omega) (by omega)).mp c_12
      refine lv_iconst (v := 3) hx hb dX9_tonesOf_15 (by decide) ?_
      refine lv_goto (tgt := 29) hx hb dX9_tonesOf_16 (by decide) ?_
      exact W.iret (v := 3) hx hb hr (fun t9 ht9 hW9 => ⟨3, rfl, by first | (rw [tnN, if_pos (by omega)]; first | done | rfl) | (rw [tnN, if_neg (by omega), if_pos (by omega)]; first | done | rfl) | (rw [tnN, if_neg (by omega), if_neg (by omega)]; first | done | rfl), ht9⟩) (fun _ h => absurd h List.not_mem_nil) dX9_tonesOf_29
set_option maxHeartbeats 1000000 in
set_option maxRecDepth 100000 in
theorem c_X9_part_no (l : Launch) (E : EnvT) (m0 : Nat) (sh : Nat) (rO : Nat) (rU : Nat) (rT : Nat) (rg : Nat) (rS : Nat) (rB : Nat) (rP : Nat) (rG : Nat) (ab0 : Int64) (be0 : Int64) (mk : Int32) (rM : Nat) (md : Int32) (rN : Nat) (rL : Nat) (rZ : Nat) (rE : Nat) (rI : Nat) (hc : Int32) (rA : Nat) (rX : Nat) (lnn : Int32) (rV : Nat) (rW : Nat) (sl : Int32) (rC : Nat) (rF : Nat) (rQ : Nat) (rK : Nat) (rR : Nat) (rD : Nat) (Si : Nat → Nat) (nu : Int32) (wt : Int32) (hs1 : 1 ≤ sh) (hs4 : sh ≤ 4) (hr8 : rg ≤ 8) (hf : ¬ (0 ≤ nu ∧ nu ≤ nI (2 * sh - 1 + 4 * rg - 1))) : Met l yX9_part wsX9_part ({ frames := 2, cells := 0, slots := 0, locals := 46 }) (va_Pc [.ref m0, .int nu, .int wt] (PR E [(m0, .inr (9, [.int (nI sh), .ref rO, .ref rU, .ref rT, .int (nI rg), .ref rS, .ref rB, .ref rP, .ref rG, .long ab0, .long be0, .int mk, .ref rM, .int md, .ref rN, .ref rL, .ref rZ, .ref rE, .ref rI, .int hc, .ref rA, .ref rX, .int lnn, .ref rV, .ref rW, .int sl, .ref rC, .ref rF, .ref rQ, .ref rK, .ref rR, .ref rD])), (rS, .inl (E.2 1, 8, .inl (nA Si)))])) (vp_Si (fun r => r = -1)) 0 0 (fun _ => False) := by
  refine Met.ofW (cc := cX9_part) (maxL := 3) (ret := (some .int)) (by decide +kernel) rfl ?_
  intro p e s m args below meth c s₁ B hml hv
  obtain ⟨rfl, hP, hE⟩ := hv
  have hx := B.exec
  have hb := B.bytes
  have hr := B.returns
  have hts := atoms_spec (ws := wsX9_part) B.pre
  have hown : s.vm.findClass RX9 = some m.cls := findClass_of_methodNamed B.named
  have hlocks := B.notSynchronized
  have hK := hE.1
  have hNN := hE.2.1
  have hl := lv_entry ([.ref m0, .int nu, .int wt]) (n := 3) (Nat.le_of_ble_eq_true rfl)
  rw [lg_entry_eq]
  generalize (lg_sl ([.ref m0, .int nu, .int wt]) ++ List.replicate (3 - (lg_sl ([.ref m0, .int nu, .int wt])).length) Slot.unset).toArray = ls at hl ⊢
  have hl : lv_has ls 3 [(0, .ref m0), (1, .int nu), (2, .int wt)] := hl
  refine lv_aload_n hx hb dX9_part_0 rfl (lv_at hl 0 rfl) ?_
  refine lv_iload_n hx hb dX9_part_1 rfl (lv_at hl 1 rfl) ?_
  refine rVi hE ⟨hx, hb, hml, hown, hts⟩ (c_X9_isPart l E m0 sh rO rU rT rg rS rB rP rG ab0 be0 mk rM md rN rL rZ rE rI hc rA rX lnn rV rW sl rC rF rQ rK rR rD nu (hs1) (hs4) (hr8)) (cwV 1 hts gX9_part_X9_isPart rfl rfl rfl (by decide +kernel) ⟨Nat.le_of_ble_eq_true rfl, Nat.le_of_ble_eq_true rfl⟩) (hP.sub [0] rfl) 0 9 rfl rfl rfl hl.1 rfl (Nat.le_of_ble_eq_true rfl) dX9_part_2 ⟨(Nat.zero_le _), (Nat.zero_le _)⟩ ?_
  refine lv_if_ne (tgt := 12) hx hb dX9_part_5 (by decide) (fun c_5 => by exfalso; have c_5 := fWi_1 c_5; exact hf c_5) (fun c_5 => ?_)
  have c_5 := fWi_0 c_5
  refine lv_iconst (v := (-1)) hx hb dX9_part_8 (by decide) ?_
  refine lv_goto (tgt := 51) hx hb dX9_part_9 (by decide) ?_
  exact W.iret (v := (-1)) hx hb hr (fun t9 ht9 hW9 => ⟨(-1), rfl, rfl, ht9⟩) (fun _ h => absurd h List.not_mem_nil) dX9_part_51
set_option maxHeartbeats 1000000 in
set_option maxRecDepth 100000 in
theorem c_X9_part_yes (l : Launch) (E : EnvT) (m0 : Nat) (sh : Nat) (rO : Nat) (rU : Nat) (rT : Nat) (rg : Nat) (rS : Nat) (rB : Nat) (rP : Nat) (rG : Nat) (ab0 : Int64) (be0 : Int64) (mk : Int32) (rM : Nat) (md : Int32) (rN : Nat) (rL : Nat) (rZ : Nat) (rE : Nat) (rI : Nat) (hc : Int32) (rA : Nat) (rX : Nat) (lnn : Int32) (rV : Nat) (rW : Nat) (sl : Int32) (rC : Nat) (rF : Nat) (rQ : Nat) (rK : Nat) (rR : Nat) (rD : Nat) (Si : Nat → Nat) (k : Nat) (wt : Int32) (hs1 : 1 ≤ sh) (hs4 : sh ≤ 4) (hr8 : rg ≤ 8) (hk : k < 2 * sh - 1 + 4 * rg) : Met l yX9_part wsX9_part ({ frames := 2, cells := 0, slots := 0, locals := 46 }) (va_Pc [.ref m0, .int (nI k), .int wt] (PR E [(m0, .inr (9, [.int (nI sh), .ref rO, .ref rU, .ref rT, .int (nI rg), .ref rS, .ref rB, .ref rP, .ref rG, .long ab0, .long be0, .int mk, .ref rM, .int md, .ref rN, .ref rL, .ref rZ, .ref rE, .ref rI, .int hc, .ref rA, .ref rX, .int lnn, .ref rV, .ref rW, .int sl, .ref rC, .ref rF, .ref rQ, .ref rK, .ref rR, .ref rD])), (rS, .inl (E.2 1, 8, .inl (nA Si)))])) (vp_Si (fun r => r = if wt = 0 then nI (kdN sh k) else if wt = 1 then nI (seN sh Si k) else if wt = 2 then nI (tnN sh k) else -1)) 0 0 (fun _ => False) := by
  refine Met.ofW (cc := cX9_part) (maxL := 3) (ret := (some .int)) (by decide +kernel) rfl ?_
  intro p e s m args below meth c s₁ B hml hv
  obtain ⟨rfl, hP, hE⟩ := hv
  have hx := B.exec
  have hb := B.bytes
  have hr := B.returns
  have hts := atoms_spec (ws := wsX9_part) B.pre
  have hown : s.vm.findClass RX9 = some m.cls := findClass_of_methodNamed B.named
  have hlocks := B.notSynchronized
  have hK := hE.1
  have hNN := hE.2.1
  have hl := lv_entry ([.ref m0, .int (nI k), .int wt]) (n := 3) (Nat.le_of_ble_eq_true rfl)
  rw [lg_entry_eq]
  generalize (lg_sl ([.ref m0, .int (nI k), .int wt]) ++ List.replicate (3 - (lg_sl ([.ref m0, .int (nI k), .int wt])).length) Slot.unset).toArray = ls at hl ⊢
  have hl : lv_has ls 3 [(0, .ref m0), (1, .int (nI k)), (2, .int wt)] := hl
  refine lv_aload_n hx hb dX9_part_0 rfl (lv_at hl 0 rfl) ?_
  refine lv_iload_n hx hb dX9_part_1 rfl (lv_at hl 1 rfl) ?_
  refine rVi hE ⟨hx, hb, hml, hown, hts⟩ (c_X9_isPart l E m0 sh rO rU rT rg rS rB rP rG ab0 be0 mk rM md rN rL rZ rE rI hc rA rX lnn rV rW sl rC rF rQ rK rR rD (nI k) (hs1) (hs4) (hr8)) (cwV 1 hts gX9_part_X9_isPart rfl rfl rfl (by decide +kernel) ⟨Nat.le_of_ble_eq_true rfl, Nat.le_of_ble_eq_true rfl⟩) (hP.sub [0] rfl) 0 9 rfl rfl rfl hl.1 rfl (Nat.le_of_ble_eq_true rfl) dX9_part_2 ⟨(Nat.zero_le _), (Nat.zero_le _)⟩ ?_
  refine lv_if_ne (tgt := 12) hx hb dX9_part_5 (by decide) (fun c_5 => ?_) (fun c_5 => by exfalso; have c_5 := fWi_0 c_5; exact c_5 ⟨nI_pos' (by omega), nI_le (by omega) (by omega)⟩)
  have c_5 := fWi_1 c_5
  refine lv_iload_n hx hb dX9_part_12 rfl (lv_at hl 2 rfl) ?_
  refine lv_if_ne (tgt := 24) hx hb dX9_part_13 (by decide) (fun c_13 => ?_) (fun c_13 => ?_)
  · refine lv_iload_n hx hb dX9_part_24 rfl (lv_at hl 2 rfl) ?_
    refine lv_iconst (v := 1) hx hb dX9_part_25 (by decide) ?_
    refine lv_icmp_ne (tgt := 37) hx hb dX9_part_26 (by decide) (fun c_26 => ?_) (fun c_26 => ?_)
    · refine lv_iload_n hx hb dX9_part_37 rfl (lv_at hl 2 rfl) ?_
      refine lv_iconst (v := 2) hx hb dX9_part_38 (by decide) ?_
      refine lv_icmp_ne (tgt := 50) hx hb dX9_part_39 (by decide) (fun c_39 => ?_) (fun c_39 => ?_)
      · refine lv_iconst (v := (-1)) hx hb dX9_part_50 (by decide) ?_
        exact W.iret (v := (-1)) hx hb hr (fun t9 ht9 hW9 => ⟨(-1), rfl, by first | (rw [if_pos c_13]; first | done | rfl) | (rw [if_neg c_13, if_pos c_26]; first | done | rfl) | (rw [if_neg c_13, if_neg c_26, if_pos c_39]; first | done | rfl) | (rw [if_neg c_13, if_neg c_26, if_neg c_39]; first | done | rfl), ht9⟩) (fun _ h => absurd h List.not_mem_nil) dX9_part_51
      · refine lv_aload_n hx hb dX9_part_42 rfl (lv_at hl 0 rfl) ?_
        refine lv_iload_n hx hb dX9_part_43 rfl (lv_at hl 1 rfl) ?_
        refine rVi hE ⟨hx, hb, hml, hown, hts⟩ (c_X9_tonesOf l E m0 sh rO rU rT rg rS rB rP rG ab0 be0 mk rM md rN rL rZ rE rI hc rA rX lnn rV rW sl rC rF rQ rK rR rD k (hs1) (hs4) (hr8) (hk)) (cwV 1 hts gX9_part_X9_tonesOf rfl rfl rfl (by decide +kernel) ⟨Nat.le_of_ble_eq_true rfl, Nat.le_of_ble_eq_true rfl⟩) (hP.sub [0] rfl) 0 9 rfl rfl rfl hl.1 rfl (Nat.le_of_ble_eq_true rfl) dX9_part_44 ⟨(Nat.zero_le _), (Nat.zero_le _)⟩ ?_
        refine lv_goto (tgt := 51) hx hb dX9_part_47 (by decide) ?_
        exact W.iret (v := nI (tnN sh k)) hx hb hr (fun t9 ht9 hW9 => ⟨nI (tnN sh k), rfl, by first | (rw [if_pos c_13]; first | done | rfl) | (rw [if_neg c_13, if_pos c_26]; first | done | rfl) | (rw [if_neg c_13, if_neg c_26, if_pos c_39]; first | done | rfl) | (rw [if_neg c_13, if_neg c_26, if_neg c_39]; first | done | rfl), ht9⟩) (fun _ h => absurd h List.not_mem_nil) dX9_part_51
    · refine lv_aload_n hx hb dX9_part_29 rfl (lv_at hl 0 rfl) ?_
      refine lv_iload_n hx hb dX9_part_30 rfl (lv_at hl 1 rfl) ?_
      refine rVi hE ⟨hx, hb, hml, hown, hts⟩ (c_X9_shaftOf l E m0 sh rO rU rT rg rS rB rP rG ab0 be0 mk rM md rN rL rZ rE rI hc rA rX lnn rV rW sl rC rF rQ rK rR rD Si k (hs1) (hs4) (hr8) (hk)) (cwV 1 hts gX9_part_X9_shaftOf rfl rfl rfl (by decide +kernel) ⟨Nat.le_of_ble_eq_true rfl, Nat.le_of_ble_eq_true rfl⟩) (hP.sub [0, 1] rfl) 0 9 rfl rfl rfl hl.1 rfl (Nat.le_of_ble_eq_true rfl) dX9_part_31 ⟨(Nat.zero_le _), (Nat.zero_le _)⟩ ?_
      refine lv_goto (tgt := 51) hx hb dX9_part_34 (by decide) ?_
      exact W.iret (v := nI (seN sh Si k)) hx hb hr (fun t9 ht9 hW9 => ⟨nI (seN sh Si k), rfl, by first | (rw [if_pos c_13]; first | done | rfl) | (rw [if_neg c_13, if_pos c_26]; first | done | rfl) | (rw [if_neg c_13, if_neg c_26, if_pos c_39]; first | done | rfl) | (rw [if_neg c_13, if_neg c_26, if_neg c_39]; first | done | rfl), ht9⟩) (fun _ h => absurd h List.not_mem_nil) dX9_part_51
  · refine lv_aload_n hx hb dX9_part_16 rfl (lv_at hl 0 rfl) ?_
    refine lv_iload_n hx hb dX9_part_17 rfl (lv_at hl 1 rfl) ?_
    refine rVi hE ⟨hx, hb, hml, hown, hts⟩ (c_X9_kindOf l E m0 sh rO rU rT rg rS rB rP rG ab0 be0 mk rM md rN rL rZ rE rI hc rA rX lnn rV rW sl rC rF rQ rK rR rD k (hs1) (hs4) (hr8) (hk)) (cwV 1 hts gX9_part_X9_kindOf rfl rfl rfl (by decide +kernel) ⟨Nat.le_of_ble_eq_true rfl, Nat.le_of_ble_eq_true rfl⟩) (hP.sub [0] rfl) 0 9 rfl rfl rfl hl.1 rfl (Nat.le_of_ble_eq_true rfl) dX9_part_18 ⟨(Nat.zero_le _), (Nat.zero_le _)⟩ ?_
    refine lv_goto (tgt := 51) hx hb dX9_part_21 (by decide) ?_
    exact W.iret (v := nI (kdN sh k)) hx hb hr (fun t9 ht9 hW9 => ⟨nI (kdN sh k), rfl, by first | (rw [if_pos c_13]; first | done | rfl) | (rw [if_neg c_13, if_pos c_26]; first | done | rfl) | (rw [if_neg c_13, if_neg c_26, if_pos c_39]; first | done | rfl) | (rw [if_neg c_13, if_neg c_26, if_neg c_39]; first | done | rfl), ht9⟩) (fun _ h => absurd h List.not_mem_nil) dX9_part_51
