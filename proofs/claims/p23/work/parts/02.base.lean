/-! the places that all contracts speak of: classes, array classes, links among nest mates -/
abbrev EnvT : Type := va_G × (Nat → ClassId)
abbrev tysG (E : EnvT) : List (ClassId × FieldType) := [(E.2 0, .byte), (E.2 1, .int), (E.2 2, .long), (E.2 3, .boolean), (E.2 4, .object "WornRings$Part"), (E.2 5, .object "WornRings$Sheet"), (E.2 6, .object "WornRings$Load")]
def nestW : List Cond := [(Jvm.Cond.fieldLinkNest "WornRings" (104 : Nat) "WornRings$Part" "kind" "I" "WornRings"),
  (Jvm.Cond.fieldLinkNest "WornRings" (109 : Nat) "WornRings$Part" "seat" "I" "WornRings"),
  (Jvm.Cond.fieldLinkNest "WornRings$Machine" (84 : Nat) "WornRings$Part" "seat" "I" "WornRings"),
  (Jvm.Cond.fieldLinkNest "WornRings$Lines" (32 : Nat) "WornRings$Part" "above" "[J" "WornRings"),
  (Jvm.Cond.fieldLinkNest "WornRings" (115 : Nat) "WornRings$Part" "above" "[J" "WornRings"),
  (Jvm.Cond.fieldLinkNest "WornRings$Lines" (35 : Nat) "WornRings$Part" "below" "[J" "WornRings"),
  (Jvm.Cond.fieldLinkNest "WornRings" (119 : Nat) "WornRings$Part" "below" "[J" "WornRings"),
  (Jvm.Cond.fieldLinkNest "WornRings$Lines" (29 : Nat) "WornRings$Part" "count" "I" "WornRings"),
  (Jvm.Cond.fieldLinkNest "WornRings" (112 : Nat) "WornRings$Part" "count" "I" "WornRings"),
  (Jvm.Cond.methodLinkNest "WornRings$Part" (28 : Nat) ({ cls := "WornRings", name := "commonDivisor", desc := "(JJ)J" } : Jvm.MethodName) "WornRings"),
  (Jvm.Cond.methodLinkNest "WornRings" (18 : Nat) ({ cls := "WornRings$Marks", name := "<init>", desc := "()V" } : Jvm.MethodName) "WornRings"),
  (Jvm.Cond.fieldLinkNest "WornRings" (132 : Nat) "WornRings$Marks" "mended" "[I" "WornRings"),
  (Jvm.Cond.fieldLinkNest "WornRings" (129 : Nat) "WornRings$Marks" "kept" "I" "WornRings"),
  (Jvm.Cond.methodLinkNest "WornRings" (31 : Nat) ({ cls := "WornRings$Mean", name := "<init>", desc := "()V" } : Jvm.MethodName) "WornRings"),
  (Jvm.Cond.fieldLinkNest "WornRings" (172 : Nat) "WornRings$Mean" "values" "[I" "WornRings"),
  (Jvm.Cond.fieldLinkNest "WornRings" (169 : Nat) "WornRings$Mean" "told" "Z" "WornRings"),
  (Jvm.Cond.methodLinkNest "WornRings" (38 : Nat) ({ cls := "WornRings$Lines", name := "<init>", desc := "()V" } : Jvm.MethodName) "WornRings"),
  (Jvm.Cond.fieldLinkNest "WornRings" (184 : Nat) "WornRings$Lines" "count" "I" "WornRings"),
  (Jvm.Cond.fieldLinkNest "WornRings" (185 : Nat) "WornRings$Lines" "thousandths" "I" "WornRings"),
  (Jvm.Cond.methodLinkNest "WornRings" (45 : Nat) ({ cls := "WornRings$Heap", name := "<init>", desc := "()V" } : Jvm.MethodName) "WornRings"),
  (Jvm.Cond.fieldLinkNest "WornRings" (203 : Nat) "WornRings$Heap" "chosen" "[I" "WornRings"),
  (Jvm.Cond.fieldLinkNest "WornRings" (209 : Nat) "WornRings$Heap" "together" "I" "WornRings"),
  (Jvm.Cond.fieldLinkNest "WornRings" (200 : Nat) "WornRings$Heap" "size" "I" "WornRings"),
  (Jvm.Cond.methodLinkNest "WornRings" (66 : Nat) ({ cls := "WornRings$Sheet", name := "<init>", desc := "()V" } : Jvm.MethodName) "WornRings"),
  (Jvm.Cond.fieldLinkNest "WornRings" (140 : Nat) "WornRings$Sheet" "held" "Z" "WornRings"),
  (Jvm.Cond.fieldLinkNest "WornRings" (147 : Nat) "WornRings$Sheet" "lane" "I" "WornRings"),
  (Jvm.Cond.fieldLinkNest "WornRings" (144 : Nat) "WornRings$Sheet" "length" "I" "WornRings"),
  (Jvm.Cond.methodLinkNest "WornRings" (67 : Nat) ({ cls := "WornRings$Load", name := "<init>", desc := "()V" } : Jvm.MethodName) "WornRings"),
  (Jvm.Cond.fieldLinkNest "WornRings" (213 : Nat) "WornRings$Load" "count" "I" "WornRings"),
  (Jvm.Cond.fieldLinkNest "WornRings" (220 : Nat) "WornRings$Load" "middle" "I" "WornRings"),
  (Jvm.Cond.fieldLinkNest "WornRings" (223 : Nat) "WornRings$Load" "warning" "Z" "WornRings"),
  (Jvm.Cond.methodLinkNest "WornRings$Machine" (42 : Nat) ({ cls := "WornRings", name := "within", desc := "(III)Z" } : Jvm.MethodName) "WornRings"),
  (Jvm.Cond.methodLinkNest "WornRings$Machine" (46 : Nat) ({ cls := "WornRings", name := "commonDivisor", desc := "(JJ)J" } : Jvm.MethodName) "WornRings"),
  (Jvm.Cond.methodLinkNest "WornRings$Marks" (16 : Nat) ({ cls := "WornRings", name := "within", desc := "(III)Z" } : Jvm.MethodName) "WornRings"),
  (Jvm.Cond.methodLinkNest "WornRings$Sheet" (29 : Nat) ({ cls := "WornRings", name := "within", desc := "(III)Z" } : Jvm.MethodName) "WornRings"),
  (Jvm.Cond.methodLinkNest "WornRings$Mean" (36 : Nat) ({ cls := "WornRings", name := "cosine", desc := "(I)I" } : Jvm.MethodName) "WornRings"),
  (Jvm.Cond.methodLinkNest "WornRings$Lines" (22 : Nat) ({ cls := "WornRings", name := "within", desc := "(III)Z" } : Jvm.MethodName) "WornRings")]
def isNest : Cond → Bool
  | .fieldLinkNest .. => true
  | .methodLinkNest .. => true
  | _ => false
theorem nestW_ok : nestW.all isNest = true := by decide +kernel
theorem nest_warm {w : Cond} (hw : isNest w = true) {s U : State} (hW : s.WarmedH U.vm) (h : va_Nw w s) : va_Nw w U := by
  cases w <;> first | exact va_Nw.warmF hW h | exact va_Nw.warmM hW h | (exact absurd hw (by simp [isNest]))
theorem nest_tab {w : Cond} (hw : isNest w = true) : w.onTables = true := by
  cases w <;> first | rfl | (exact absurd hw (by simp [isNest]))
def EV (E : EnvT) (U : State) : Prop := va_K E.1 vwCl (tysG E) U ∧ (∀ w ∈ nestW, va_Nw w U) ∧ va_AO "WornRings$Part" U ∧ va_AO "WornRings$Sheet" U ∧ va_AO "WornRings$Load" U
theorem EV.warm {E : EnvT} {s U : State} (hW : s.WarmedH U.vm) (h : EV E s) : EV E U :=
  ⟨va_K.moved hW.alike h.1, fun w hw => nest_warm (List.all_eq_true.mp nestW_ok w hw) hW (h.2.1 w hw), h.2.2.1.moved hW.alike, h.2.2.2.1.moved hW.alike, h.2.2.2.2.moved hW.alike⟩
theorem EV.calling {E : EnvT} {U : State} {g : JFrame} {mk : MethodId} {a : Array Value} (h : EV E U) : EV E (U.calling g mk a) :=
  ⟨va_K.moved (u := U) (U := U.calling g mk a) (Vm.Alike.refl U.vm) h.1, fun w hw => va_Nw.same (nest_tab (List.all_eq_true.mp nestW_ok w hw)) (u := U) (U := U.calling g mk a) rfl (h.2.1 w hw), va_AO.moved (u := U) (U := U.calling g mk a) (Vm.Alike.refl U.vm) h.2.2.1, va_AO.moved (u := U) (U := U.calling g mk a) (Vm.Alike.refl U.vm) h.2.2.2.1, va_AO.moved (u := U) (U := U.calling g mk a) (Vm.Alike.refl U.vm) h.2.2.2.2⟩
/-- a reader's start -/
def PR (E : EnvT) (ws : va_W) (U : State) : Prop := va_P E.1 vwCl ws U.heap ∧ EV E U
/-- a writer's start -/
def PW (E : EnvT) (ws : va_W) (sz : Nat) (U : State) : Prop := U.heap.size = sz ∧ va_P E.1 vwCl ws U.heap ∧ EV E U ∧ va_D (fun _ => True) ws
/-- a writer's end -/
def BW (E : EnvT) (A : Nat → Prop) (w1 : va_W) (t : State) : Prop := va_P E.1 vwCl w1 t.heap ∧ va_D A w1
theorem PR_blind {E : EnvT} {ws : va_W} {av : List Value} : FrameBlind (va_Pc av (PR E ws)) := fun _ _ _ _ q => ⟨q.1, q.2.1, q.2.2.calling⟩
theorem PW_blind {E : EnvT} {ws : va_W} {av : List Value} {sz : Nat} : FrameBlind (va_Pc av (PW E ws sz)) := fun _ _ _ _ q => ⟨q.1, q.2.1, q.2.2.1, q.2.2.2.1.calling, q.2.2.2.2⟩
theorem fm_of_map {α : Type} {f : Nat → Option α} : ∀ {is : List Nat} {ws : List α}, is.map f = ws.map some → is.filterMap f = ws
  | [], [], _ => rfl
  | [], _ :: _, h => by simp at h
  | _ :: _, [], h => by simp at h
  | i :: is, w :: ws, h => by
    simp only [List.map_cons, List.cons.injEq] at h
    rw [List.filterMap_cons, h.1, fm_of_map h.2]
theorem va_RA_inj {U : State} {a b : ClassId} {ty : FieldType} (h1 : va_RA U a ty) (h2 : va_RA U b ty) : a = b := by
  cases ty <;> simp only [va_RA] at h1 h2 <;> first | (rw [h1] at h2; exact Option.some.inj h2) | (obtain ⟨_, _, _, _, _, h1⟩ := h1; obtain ⟨_, _, _, _, _, h2⟩ := h2; rw [h1] at h2; exact Option.some.inj h2)
theorem arrcl {E : EnvT} {D : va_G} {cl : List vw_C} {s : State} {cA c0 : ClassId} {ty : FieldType} (h : va_K D cl (tysG E ++ [(cA, ty)]) s) (k : Nat) (h1 : (tysG E ++ [(cA, ty)])[k]? = some (c0, ty)) (h2 : (tysG E ++ [(cA, ty)])[7]? = some (cA, ty)) : cA = c0 := va_RA_inj (h.2 7 _ h2).2 (h.2 k _ h1).2
theorem newI (n : Nat) (cA : ClassId) : vp_cell cA (n, .inl (fun _ => 0)) = arrV cA n (fun _ => defaultValue .int) := rfl
theorem newB (n : Nat) (cA : ClassId) : vp_cell cA (n, .inl (fun _ => 0)) = arrV cA n (fun _ => defaultValue .byte) := rfl
theorem newZ (n : Nat) (cA : ClassId) : vp_cell cA (n, .inl (fun _ => 0)) = arrV cA n (fun _ => defaultValue .boolean) := rfl
theorem newJ (n : Nat) (cA : ClassId) : vp_cell cA (n, .inr (.inl (fun _ => 0))) = arrV cA n (fun _ => defaultValue .long) := rfl
theorem bytesI {n : Nat} (h : n ≤ 1000000) : n * componentBytes .int ≤ 536870912 := by show n * 4 ≤ _; omega
theorem bytesB {n : Nat} (h : n ≤ 1000000) : n * componentBytes .byte ≤ 536870912 := by show n * 1 ≤ _; omega
theorem bytesZ {n : Nat} (h : n ≤ 1000000) : n * componentBytes .boolean ≤ 536870912 := by show n * 1 ≤ _; omega
theorem bytesJ {n : Nat} (h : n ≤ 1000000) : n * componentBytes .long ≤ 536870912 := by show n * 8 ≤ _; omega
section KX
variable {p : Program} {l : Launch} {e : Env} {R : Room} {s : State} {m : MethodId} {args : Array Value} {below : List Frame} {meth : Method} {c : Code} {H H0 : Heap} {locs : List Loc} {cells slots : Nat} {Q : State → Prop} {cc bytes : ByteArray} {pc : Nat} {ls : Array Slot} {st rest As : List Value} {E : EnvT} {y : MethodName} {maxL nL n index mc ms : Nat} {ret : Option FieldType} {wy Ts : List Cond} {rm : Room} {own C host : String} {b : Addr} {ws wc wr w0 : va_W} {fs : List Value} {T : u_T} {N : Nat} {A : Nat → Prop}
/-! a reader's call -/
theorem rVi {r0 : Int32} (hE : EV E s) (S : CallFix p m c cc nL s args Ts own) (hM : Met l y wy rm (va_Pc (.ref b :: As) (PR E ws)) (vp_Si (fun r => r = r0)) 0 0 (fun _ => False)) (cw : CallW R s args own C index y bytes maxL ret wy rm 0 0 n) (hP : va_P E.1 vwCl ws H) (q0 ci : Nat) (hcl : vwCl[ci]? = some (C, T, N)) (he : ws[q0]? = some (b, .inr (ci, fs))) (hn : As.length = n) (hls : ls.size = nL) (hst : st = As.reverse ++ .ref b :: rest) (hW : (rest.map fun v => v.category).sum ≤ 8) (hdg : decode cc pc = .ok (.invokevirtual index, 3)) (hf : cells ≤ R.cells ∧ slots ≤ R.slots)
    (kk : W p l e R s m args below meth c H locs cells slots Q (F0 m (pc + 3) ls (.int r0 :: rest))) : W p l e R s m args below meth c H locs cells slots Q (F0 m pc ls st) :=
  vp_callSi (va_Run.run (va_runV S hM cw ⟨PR_blind, va_recv hE.1 hP hcl he, fun U hU hW => ⟨rfl, by rw [hU]; exact hP, hE.warm hW⟩⟩ rfl hn hls hst (lv_room hW) hdg hf)) (fun r hr => by rw [hr]; exact kk)
theorem rVl {r0 : Int64} (hE : EV E s) (S : CallFix p m c cc nL s args Ts own) (hM : Met l y wy rm (va_Pc (.ref b :: As) (PR E ws)) (vp_Sl (fun r => r = r0)) 0 0 (fun _ => False)) (cw : CallW R s args own C index y bytes maxL ret wy rm 0 0 n) (hP : va_P E.1 vwCl ws H) (q0 ci : Nat) (hcl : vwCl[ci]? = some (C, T, N)) (he : ws[q0]? = some (b, .inr (ci, fs))) (hn : As.length = n) (hls : ls.size = nL) (hst : st = As.reverse ++ .ref b :: rest) (hW : (rest.map fun v => v.category).sum ≤ 8) (hdg : decode cc pc = .ok (.invokevirtual index, 3)) (hf : cells ≤ R.cells ∧ slots ≤ R.slots)
    (kk : W p l e R s m args below meth c H locs cells slots Q (F0 m (pc + 3) ls (.long r0 :: rest))) : W p l e R s m args below meth c H locs cells slots Q (F0 m pc ls st) :=
  vp_callSl (va_Run.run (va_runV S hM cw ⟨PR_blind, va_recv hE.1 hP hcl he, fun U hU hW => ⟨rfl, by rw [hU]; exact hP, hE.warm hW⟩⟩ rfl hn hls hst (lv_room hW) hdg hf)) (fun r hr => by rw [hr]; exact kk)
theorem rVq {r0 : Option Nat} (hE : EV E s) (S : CallFix p m c cc nL s args Ts own) (hM : Met l y wy rm (va_Pc (.ref b :: As) (PR E ws)) (va_Sq (fun r => r = r0)) 0 0 (fun _ => False)) (cw : CallW R s args own C index y bytes maxL ret wy rm 0 0 n) (hP : va_P E.1 vwCl ws H) (q0 ci : Nat) (hcl : vwCl[ci]? = some (C, T, N)) (he : ws[q0]? = some (b, .inr (ci, fs))) (hn : As.length = n) (hls : ls.size = nL) (hst : st = As.reverse ++ .ref b :: rest) (hW : (rest.map fun v => v.category).sum ≤ 8) (hdg : decode cc pc = .ok (.invokevirtual index, 3)) (hf : cells ≤ R.cells ∧ slots ≤ R.slots)
    (kk : W p l e R s m args below meth c H locs cells slots Q (F0 m (pc + 3) ls (va_rf r0 :: rest))) : W p l e R s m args below meth c H locs cells slots Q (F0 m pc ls st) :=
  va_csq (va_Run.run (va_runV S hM cw ⟨PR_blind, va_recv hE.1 hP hcl he, fun U hU hW => ⟨rfl, by rw [hU]; exact hP, hE.warm hW⟩⟩ rfl hn hls hst (lv_room hW) hdg hf)) (fun r hr => by rw [hr]; exact kk)
theorem rSi {r0 : Int32} (hE : EV E s) (S : CallFix p m c cc nL s args Ts own) (hM : Met l y wy rm (va_Pc As (PR E ws)) (vp_Si (fun r => r = r0)) 0 0 (fun _ => False)) (cw : CallB R s args own index y bytes maxL ret wy rm 0 0 n ∧ (Cond.static y).before args s = true) (hP : va_P E.1 vwCl ws H) (hn : As.length = n) (hls : ls.size = nL) (hst : st = As.reverse ++ rest) (hW : (rest.map fun v => v.category).sum ≤ 8) (hdg : decode cc pc = .ok (.invokestatic index, 3)) (hf : cells ≤ R.cells ∧ slots ≤ R.slots)
    (kk : W p l e R s m args below meth c H locs cells slots Q (F0 m (pc + 3) ls (.int r0 :: rest))) : W p l e R s m args below meth c H locs cells slots Q (F0 m pc ls st) :=
  vp_callSi (va_Run.run (va_runS S hM cw ⟨PR_blind, fun U hU hW => ⟨rfl, by rw [hU]; exact hP, hE.warm hW⟩⟩ rfl hn hls hst (lv_room hW) hdg hf)) (fun r hr => by rw [hr]; exact kk)
theorem rSl {r0 : Int64} (hE : EV E s) (S : CallFix p m c cc nL s args Ts own) (hM : Met l y wy rm (va_Pc As (PR E ws)) (vp_Sl (fun r => r = r0)) 0 0 (fun _ => False)) (cw : CallB R s args own index y bytes maxL ret wy rm 0 0 n ∧ (Cond.static y).before args s = true) (hP : va_P E.1 vwCl ws H) (hn : As.length = n) (hls : ls.size = nL) (hst : st = As.reverse ++ rest) (hW : (rest.map fun v => v.category).sum ≤ 8) (hdg : decode cc pc = .ok (.invokestatic index, 3)) (hf : cells ≤ R.cells ∧ slots ≤ R.slots)
    (kk : W p l e R s m args below meth c H locs cells slots Q (F0 m (pc + 3) ls (.long r0 :: rest))) : W p l e R s m args below meth c H locs cells slots Q (F0 m pc ls st) :=
  vp_callSl (va_Run.run (va_runS S hM cw ⟨PR_blind, fun U hU hW => ⟨rfl, by rw [hU]; exact hP, hE.warm hW⟩⟩ rfl hn hls hst (lv_room hW) hdg hf)) (fun r hr => by rw [hr]; exact kk)
theorem rSNi {r0 : Int32} (hE : EV E s) (S : CallFix p m c cc nL s args Ts own) (hM : Met l y wy rm (va_Pc As (PR E ws)) (vp_Si (fun r => r = r0)) 0 0 (fun _ => False)) (cw : va_CN R s args own index y host bytes maxL ret wy rm 0 0 n ∧ (Cond.static y).before args s = true ∧ True) (hP : va_P E.1 vwCl ws H) (hn : As.length = n) (hls : ls.size = nL) (hst : st = As.reverse ++ rest) (hW : (rest.map fun v => v.category).sum ≤ 8) (hdg : decode cc pc = .ok (.invokestatic index, 3)) (hf : cells ≤ R.cells ∧ slots ≤ R.slots)
    (kk : W p l e R s m args below meth c H locs cells slots Q (F0 m (pc + 3) ls (.int r0 :: rest))) : W p l e R s m args below meth c H locs cells slots Q (F0 m pc ls st) :=
  vp_callSi (va_Run.run (va_runSN S hM cw ⟨PR_blind, fun U hU hW => ⟨rfl, by rw [hU]; exact hP, hE.warm hW⟩⟩ rfl hn hls hst (lv_room hW) hdg hf)) (fun r hr => by rw [hr]; exact kk)
theorem rSNl {r0 : Int64} (hE : EV E s) (S : CallFix p m c cc nL s args Ts own) (hM : Met l y wy rm (va_Pc As (PR E ws)) (vp_Sl (fun r => r = r0)) 0 0 (fun _ => False)) (cw : va_CN R s args own index y host bytes maxL ret wy rm 0 0 n ∧ (Cond.static y).before args s = true ∧ True) (hP : va_P E.1 vwCl ws H) (hn : As.length = n) (hls : ls.size = nL) (hst : st = As.reverse ++ rest) (hW : (rest.map fun v => v.category).sum ≤ 8) (hdg : decode cc pc = .ok (.invokestatic index, 3)) (hf : cells ≤ R.cells ∧ slots ≤ R.slots)
    (kk : W p l e R s m args below meth c H locs cells slots Q (F0 m (pc + 3) ls (.long r0 :: rest))) : W p l e R s m args below meth c H locs cells slots Q (F0 m pc ls st) :=
  vp_callSl (va_Run.run (va_runSN S hM cw ⟨PR_blind, fun U hU hW => ⟨rfl, by rw [hU]; exact hP, hE.warm hW⟩⟩ rfl hn hls hst (lv_room hW) hdg hf)) (fun r hr => by rw [hr]; exact kk)
/-! a writer's call: the cells isC of the world go to the callee, the cells isR stay -/
theorem wVi {S : Type} {post : Int32 → S → Prop} {w1 : S → va_W} (hE : EV E s) (F : CallFix p m c cc nL s args Ts own) (hM : Met l y wy rm (va_Pc (.ref b :: As) (PW E wc H.size)) (va_Qi post (fun u t => BW E (va_A wc H.size) (w1 u) t) (va_A wc H.size)) mc ms (va_A wc H.size)) (cw : CallW R s args own C index y bytes maxL ret wy rm mc ms n) (hP : va_P E.1 vwCl ws H) (hD : va_D A ws) (hS : va_S A H0 H locs) (hA : ∀ q, H0.size ≤ q → A q) (isC isR : List Nat) (hC : isC.map (fun i => ws[i]?) = wc.map some) (hR : isR.map (fun i => ws[i]?) = wr.map some) (hnC : va_nd isC = true) (hnR : va_nd isR = true) (hdis : ∀ i ∈ isR, i ∉ isC)
    (q0 ci : Nat) (hcl : vwCl[ci]? = some (C, T, N)) (he : wc[q0]? = some (b, .inr (ci, fs))) (hn : As.length = n) (hls : ls.size = nL) (hst : st = As.reverse ++ .ref b :: rest) (hW : (rest.map fun v => v.category).sum ≤ 8) (hdg : decode cc pc = .ok (.invokevirtual index, 3)) (hf : cells + mc ≤ R.cells ∧ slots + ms ≤ R.slots)
    (kk : ∀ (r : Int32) (u : S) (H1 : Heap) (locs1 : List Loc), post r u → va_P E.1 vwCl (wr ++ w1 u) H1 → va_D A (wr ++ w1 u) → va_S A H0 H1 locs1 → W p l e R s m args below meth c H1 locs1 (cells + mc) (slots + ms) Q (F0 m (pc + 3) ls (.int r :: rest))) : W p l e R s m args below meth c H locs cells slots Q (F0 m pc ls st) := by
  have hPc : va_P E.1 vwCl wc H := hP.sub isC (fm_of_map hC)
  have hDc : va_D A wc := hD.sub isC hnC hC
  have hFc := va_free hD hS hA isC hC
  refine va_calli (va_runV F hM cw ⟨PW_blind, va_recv hE.1 hPc hcl he, fun U hU hW => ⟨rfl, by rw [hU], by rw [hU]; exact hPc, hE.warm hW, hDc.weaken (fun _ _ _ _ => trivial)⟩⟩ rfl hn hls hst (lv_room hW) hdg hf) hS (fun q _ h => hFc q h) hFc (fun r u t H1 locs1 ht hvm hw hB hz1 hk1 hS1 => ?_)
  obtain ⟨hP1, hD1⟩ := hB
  rw [ht] at hP1
  obtain ⟨hP2, hD2⟩ := va_join hP hD isC isR hC hR hnR hdis hk1 hFc hP1 hD1
  exact kk r u H1 locs1 hw hP2 hD2 hS1
theorem wVl {S : Type} {post : Int64 → S → Prop} {w1 : S → va_W} (hE : EV E s) (F : CallFix p m c cc nL s args Ts own) (hM : Met l y wy rm (va_Pc (.ref b :: As) (PW E wc H.size)) (va_Ql post (fun u t => BW E (va_A wc H.size) (w1 u) t) (va_A wc H.size)) mc ms (va_A wc H.size)) (cw : CallW R s args own C index y bytes maxL ret wy rm mc ms n) (hP : va_P E.1 vwCl ws H) (hD : va_D A ws) (hS : va_S A H0 H locs) (hA : ∀ q, H0.size ≤ q → A q) (isC isR : List Nat) (hC : isC.map (fun i => ws[i]?) = wc.map some) (hR : isR.map (fun i => ws[i]?) = wr.map some) (hnC : va_nd isC = true) (hnR : va_nd isR = true) (hdis : ∀ i ∈ isR, i ∉ isC)
    (q0 ci : Nat) (hcl : vwCl[ci]? = some (C, T, N)) (he : wc[q0]? = some (b, .inr (ci, fs))) (hn : As.length = n) (hls : ls.size = nL) (hst : st = As.reverse ++ .ref b :: rest) (hW : (rest.map fun v => v.category).sum ≤ 8) (hdg : decode cc pc = .ok (.invokevirtual index, 3)) (hf : cells + mc ≤ R.cells ∧ slots + ms ≤ R.slots)
    (kk : ∀ (r : Int64) (u : S) (H1 : Heap) (locs1 : List Loc), post r u → va_P E.1 vwCl (wr ++ w1 u) H1 → va_D A (wr ++ w1 u) → va_S A H0 H1 locs1 → W p l e R s m args below meth c H1 locs1 (cells + mc) (slots + ms) Q (F0 m (pc + 3) ls (.long r :: rest))) : W p l e R s m args below meth c H locs cells slots Q (F0 m pc ls st) := by
  have hPc : va_P E.1 vwCl wc H := hP.sub isC (fm_of_map hC)
  have hDc : va_D A wc := hD.sub isC hnC hC
  have hFc := va_free hD hS hA isC hC
  refine va_calll (va_runV F hM cw ⟨PW_blind, va_recv hE.1 hPc hcl he, fun U hU hW => ⟨rfl, by rw [hU], by rw [hU]; exact hPc, hE.warm hW, hDc.weaken (fun _ _ _ _ => trivial)⟩⟩ rfl hn hls hst (lv_room hW) hdg hf) hS (fun q _ h => hFc q h) hFc (fun r u t H1 locs1 ht hvm hw hB hz1 hk1 hS1 => ?_)
  obtain ⟨hP1, hD1⟩ := hB
  rw [ht] at hP1
  obtain ⟨hP2, hD2⟩ := va_join hP hD isC isR hC hR hnR hdis hk1 hFc hP1 hD1
  exact kk r u H1 locs1 hw hP2 hD2 hS1
theorem wVv {S : Type} {post : S → Prop} {w1 : S → va_W} (hE : EV E s) (F : CallFix p m c cc nL s args Ts own) (hM : Met l y wy rm (va_Pc (.ref b :: As) (PW E wc H.size)) (va_Qv post (fun u t => BW E (va_A wc H.size) (w1 u) t) (va_A wc H.size)) mc ms (va_A wc H.size)) (cw : CallW R s args own C index y bytes maxL ret wy rm mc ms n) (hP : va_P E.1 vwCl ws H) (hD : va_D A ws) (hS : va_S A H0 H locs) (hA : ∀ q, H0.size ≤ q → A q) (isC isR : List Nat) (hC : isC.map (fun i => ws[i]?) = wc.map some) (hR : isR.map (fun i => ws[i]?) = wr.map some) (hnC : va_nd isC = true) (hnR : va_nd isR = true) (hdis : ∀ i ∈ isR, i ∉ isC)
    (q0 ci : Nat) (hcl : vwCl[ci]? = some (C, T, N)) (he : wc[q0]? = some (b, .inr (ci, fs))) (hn : As.length = n) (hls : ls.size = nL) (hst : st = As.reverse ++ .ref b :: rest) (hW : (rest.map fun v => v.category).sum ≤ 8) (hdg : decode cc pc = .ok (.invokevirtual index, 3)) (hf : cells + mc ≤ R.cells ∧ slots + ms ≤ R.slots)
    (kk : ∀ (u : S) (H1 : Heap) (locs1 : List Loc), post u → va_P E.1 vwCl (wr ++ w1 u) H1 → va_D A (wr ++ w1 u) → va_S A H0 H1 locs1 → W p l e R s m args below meth c H1 locs1 (cells + mc) (slots + ms) Q (F0 m (pc + 3) ls rest)) : W p l e R s m args below meth c H locs cells slots Q (F0 m pc ls st) := by
  have hPc : va_P E.1 vwCl wc H := hP.sub isC (fm_of_map hC)
  have hDc : va_D A wc := hD.sub isC hnC hC
  have hFc := va_free hD hS hA isC hC
  refine va_callv (va_runV F hM cw ⟨PW_blind, va_recv hE.1 hPc hcl he, fun U hU hW => ⟨rfl, by rw [hU], by rw [hU]; exact hPc, hE.warm hW, hDc.weaken (fun _ _ _ _ => trivial)⟩⟩ rfl hn hls hst (lv_room hW) hdg hf) hS (fun q _ h => hFc q h) hFc (fun u t H1 locs1 ht hvm hw hB hz1 hk1 hS1 => ?_)
  obtain ⟨hP1, hD1⟩ := hB
  rw [ht] at hP1
  obtain ⟨hP2, hD2⟩ := va_join hP hD isC isR hC hR hnR hdis hk1 hFc hP1 hD1
  exact kk u H1 locs1 hw hP2 hD2 hS1
theorem wVr {S : Type} {post : S → Prop} {w1 : S → Nat → va_W} (hE : EV E s) (F : CallFix p m c cc nL s args Ts own) (hM : Met l y wy rm (va_Pc (.ref b :: As) (PW E wc H.size)) (va_Qr post (fun u ra t => BW E (va_A wc H.size) (w1 u ra) t) (va_A wc H.size)) mc ms (va_A wc H.size)) (cw : CallW R s args own C index y bytes maxL ret wy rm mc ms n) (hP : va_P E.1 vwCl ws H) (hD : va_D A ws) (hS : va_S A H0 H locs) (hA : ∀ q, H0.size ≤ q → A q) (isC isR : List Nat) (hC : isC.map (fun i => ws[i]?) = wc.map some) (hR : isR.map (fun i => ws[i]?) = wr.map some) (hnC : va_nd isC = true) (hnR : va_nd isR = true) (hdis : ∀ i ∈ isR, i ∉ isC)
    (q0 ci : Nat) (hcl : vwCl[ci]? = some (C, T, N)) (he : wc[q0]? = some (b, .inr (ci, fs))) (hn : As.length = n) (hls : ls.size = nL) (hst : st = As.reverse ++ .ref b :: rest) (hW : (rest.map fun v => v.category).sum ≤ 8) (hdg : decode cc pc = .ok (.invokevirtual index, 3)) (hf : cells + mc ≤ R.cells ∧ slots + ms ≤ R.slots)
    (kk : ∀ (u : S) (ra : Nat) (H1 : Heap) (locs1 : List Loc), post u → va_P E.1 vwCl (wr ++ w1 u ra) H1 → va_D A (wr ++ w1 u ra) → va_S A H0 H1 locs1 → W p l e R s m args below meth c H1 locs1 (cells + mc) (slots + ms) Q (F0 m (pc + 3) ls (.ref ra :: rest))) : W p l e R s m args below meth c H locs cells slots Q (F0 m pc ls st) := by
  have hPc : va_P E.1 vwCl wc H := hP.sub isC (fm_of_map hC)
  have hDc : va_D A wc := hD.sub isC hnC hC
  have hFc := va_free hD hS hA isC hC
  refine va_callr (va_runV F hM cw ⟨PW_blind, va_recv hE.1 hPc hcl he, fun U hU hW => ⟨rfl, by rw [hU], by rw [hU]; exact hPc, hE.warm hW, hDc.weaken (fun _ _ _ _ => trivial)⟩⟩ rfl hn hls hst (lv_room hW) hdg hf) hS (fun q _ h => hFc q h) hFc (fun u ra t H1 locs1 ht hvm hw hB hz1 hk1 hS1 => ?_)
  obtain ⟨hP1, hD1⟩ := hB
  rw [ht] at hP1
  obtain ⟨hP2, hD2⟩ := va_join hP hD isC isR hC hR hnR hdis hk1 hFc hP1 hD1
  exact kk u ra H1 locs1 hw hP2 hD2 hS1
theorem wIv {S : Type} {post : S → Prop} {w1 : S → va_W} (hE : EV E s) (F : CallFix p m c cc nL s args Ts own) (hM : Met l y wy rm (va_Pc (.ref b :: As) (PW E wc H.size)) (va_Qv post (fun u t => BW E (va_A wc H.size) (w1 u) t) (va_A wc H.size)) mc ms (va_A wc H.size)) (cw : CallB R s args own index y bytes maxL none wy rm mc ms n ∧ y.name = "<init>" ∧ (Cond.instanceMethod y).before args s = true) (hP : va_P E.1 vwCl ws H) (hD : va_D A ws) (hS : va_S A H0 H locs) (hA : ∀ q, H0.size ≤ q → A q) (isC isR : List Nat) (hC : isC.map (fun i => ws[i]?) = wc.map some) (hR : isR.map (fun i => ws[i]?) = wr.map some) (hnC : va_nd isC = true) (hnR : va_nd isR = true) (hdis : ∀ i ∈ isR, i ∉ isC)
    (hn : As.length = n) (hls : ls.size = nL) (hst : st = As.reverse ++ .ref b :: rest) (hW : (rest.map fun v => v.category).sum ≤ 8) (hdg : decode cc pc = .ok (.invokespecial index, 3)) (hf : cells + mc ≤ R.cells ∧ slots + ms ≤ R.slots)
    (kk : ∀ (u : S) (H1 : Heap) (locs1 : List Loc), post u → va_P E.1 vwCl (wr ++ w1 u) H1 → va_D A (wr ++ w1 u) → va_S A H0 H1 locs1 → W p l e R s m args below meth c H1 locs1 (cells + mc) (slots + ms) Q (F0 m (pc + 3) ls rest)) : W p l e R s m args below meth c H locs cells slots Q (F0 m pc ls st) := by
  have hPc : va_P E.1 vwCl wc H := hP.sub isC (fm_of_map hC)
  have hDc : va_D A wc := hD.sub isC hnC hC
  have hFc := va_free hD hS hA isC hC
  refine va_callv (va_runI F hM cw ⟨PW_blind, fun U hU hW => ⟨rfl, by rw [hU], by rw [hU]; exact hPc, hE.warm hW, hDc.weaken (fun _ _ _ _ => trivial)⟩⟩ rfl hn hls hst (lv_room hW) hdg hf) hS (fun q _ h => hFc q h) hFc (fun u t H1 locs1 ht hvm hw hB hz1 hk1 hS1 => ?_)
  obtain ⟨hP1, hD1⟩ := hB
  rw [ht] at hP1
  obtain ⟨hP2, hD2⟩ := va_join hP hD isC isR hC hR hnR hdis hk1 hFc hP1 hD1
  exact kk u H1 locs1 hw hP2 hD2 hS1
theorem wINv {S : Type} {post : S → Prop} {w1 : S → va_W} (hE : EV E s) (F : CallFix p m c cc nL s args Ts own) (hM : Met l y wy rm (va_Pc (.ref b :: As) (PW E wc H.size)) (va_Qv post (fun u t => BW E (va_A wc H.size) (w1 u) t) (va_A wc H.size)) mc ms (va_A wc H.size)) (cw : va_CN R s args own index y host bytes maxL none wy rm mc ms n ∧ y.name = "<init>" ∧ (Cond.instanceMethod y).before args s = true) (hP : va_P E.1 vwCl ws H) (hD : va_D A ws) (hS : va_S A H0 H locs) (hA : ∀ q, H0.size ≤ q → A q) (isC isR : List Nat) (hC : isC.map (fun i => ws[i]?) = wc.map some) (hR : isR.map (fun i => ws[i]?) = wr.map some) (hnC : va_nd isC = true) (hnR : va_nd isR = true) (hdis : ∀ i ∈ isR, i ∉ isC)
    (hn : As.length = n) (hls : ls.size = nL) (hst : st = As.reverse ++ .ref b :: rest) (hW : (rest.map fun v => v.category).sum ≤ 8) (hdg : decode cc pc = .ok (.invokespecial index, 3)) (hf : cells + mc ≤ R.cells ∧ slots + ms ≤ R.slots)
    (kk : ∀ (u : S) (H1 : Heap) (locs1 : List Loc), post u → va_P E.1 vwCl (wr ++ w1 u) H1 → va_D A (wr ++ w1 u) → va_S A H0 H1 locs1 → W p l e R s m args below meth c H1 locs1 (cells + mc) (slots + ms) Q (F0 m (pc + 3) ls rest)) : W p l e R s m args below meth c H locs cells slots Q (F0 m pc ls st) := by
  have hPc : va_P E.1 vwCl wc H := hP.sub isC (fm_of_map hC)
  have hDc : va_D A wc := hD.sub isC hnC hC
  have hFc := va_free hD hS hA isC hC
  refine va_callv (va_runIN F hM cw ⟨PW_blind, fun U hU hW => ⟨rfl, by rw [hU], by rw [hU]; exact hPc, hE.warm hW, hDc.weaken (fun _ _ _ _ => trivial)⟩⟩ rfl hn hls hst (lv_room hW) hdg hf) hS (fun q _ h => hFc q h) hFc (fun u t H1 locs1 ht hvm hw hB hz1 hk1 hS1 => ?_)
  obtain ⟨hP1, hD1⟩ := hB
  rw [ht] at hP1
  obtain ⟨hP2, hD2⟩ := va_join hP hD isC isR hC hR hnR hdis hk1 hFc hP1 hD1
  exact kk u H1 locs1 hw hP2 hD2 hS1
end KX
