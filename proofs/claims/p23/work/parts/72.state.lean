/-! the state of both, side by side -/
def zu {α : Type} (f : Nat → α) (k : Nat) (v : α) : Nat → α := fun j => cond (Nat.beq j k) v (f j)
def ZT : Type := (Nat → Nat) × (Nat → Nat → Nat) × (Nat → Nat → Option Nat) × (Nat → Int32) × (Nat → Nat → Int32) × (Nat → Nat → Nat → Int32) × (Nat → Nat → Int64) × (Nat → Int64) × (Nat → List Nat) × (Nat → List PRt)
def ZT.un (z : ZT) : Nat := z.1 0
def ZT.s_un (z : ZT) (v : Nat) : ZT := (zu z.1 0 v, z.2.1, z.2.2.1, z.2.2.2.1, z.2.2.2.2.1, z.2.2.2.2.2.1, z.2.2.2.2.2.2.1, z.2.2.2.2.2.2.2.1, z.2.2.2.2.2.2.2.2.1, z.2.2.2.2.2.2.2.2.2)
def ZT.sh (z : ZT) : Nat := z.1 1
def ZT.s_sh (z : ZT) (v : Nat) : ZT := (zu z.1 1 v, z.2.1, z.2.2.1, z.2.2.2.1, z.2.2.2.2.1, z.2.2.2.2.2.1, z.2.2.2.2.2.2.1, z.2.2.2.2.2.2.2.1, z.2.2.2.2.2.2.2.2.1, z.2.2.2.2.2.2.2.2.2)
def ZT.rg (z : ZT) : Nat := z.1 2
def ZT.s_rg (z : ZT) (v : Nat) : ZT := (zu z.1 2 v, z.2.1, z.2.2.1, z.2.2.2.1, z.2.2.2.2.1, z.2.2.2.2.2.1, z.2.2.2.2.2.2.1, z.2.2.2.2.2.2.2.1, z.2.2.2.2.2.2.2.2.1, z.2.2.2.2.2.2.2.2.2)
def ZT.k (z : ZT) : Nat := z.1 3
def ZT.s_k (z : ZT) (v : Nat) : ZT := (zu z.1 3 v, z.2.1, z.2.2.1, z.2.2.2.1, z.2.2.2.2.1, z.2.2.2.2.2.1, z.2.2.2.2.2.2.1, z.2.2.2.2.2.2.2.1, z.2.2.2.2.2.2.2.2.1, z.2.2.2.2.2.2.2.2.2)
def ZT.lt (z : ZT) : Nat := z.1 4
def ZT.s_lt (z : ZT) (v : Nat) : ZT := (zu z.1 4 v, z.2.1, z.2.2.1, z.2.2.2.1, z.2.2.2.2.1, z.2.2.2.2.2.1, z.2.2.2.2.2.2.1, z.2.2.2.2.2.2.2.1, z.2.2.2.2.2.2.2.2.1, z.2.2.2.2.2.2.2.2.2)
def ZT.n (z : ZT) : Nat := z.1 5
def ZT.s_n (z : ZT) (v : Nat) : ZT := (zu z.1 5 v, z.2.1, z.2.2.1, z.2.2.2.1, z.2.2.2.2.1, z.2.2.2.2.2.1, z.2.2.2.2.2.2.1, z.2.2.2.2.2.2.2.1, z.2.2.2.2.2.2.2.2.1, z.2.2.2.2.2.2.2.2.2)
def ZT.th (z : ZT) : Nat := z.1 6
def ZT.s_th (z : ZT) (v : Nat) : ZT := (zu z.1 6 v, z.2.1, z.2.2.1, z.2.2.2.1, z.2.2.2.2.1, z.2.2.2.2.2.1, z.2.2.2.2.2.2.1, z.2.2.2.2.2.2.2.1, z.2.2.2.2.2.2.2.2.1, z.2.2.2.2.2.2.2.2.2)
def ZT.g0 (z : ZT) : Nat := z.1 7
def ZT.gm (z : ZT) : Nat := z.1 8
def ZT.gk (z : ZT) : Nat := z.1 9
def ZT.gs (z : ZT) : Nat := z.1 10
def ZT.ga (z : ZT) : Nat := z.1 11
def ZT.gl (z : ZT) : Nat := z.1 12
def ZT.gh (z : ZT) : Nat := z.1 13
def ZT.gd (z : ZT) : Nat := z.1 14
def ZT.aa (z : ZT) : Nat := z.1 15
def ZT.ab (z : ZT) : Nat := z.1 16
def ZT.ao (z : ZT) : Nat := z.1 17
def ZT.ag (z : ZT) : Nat := z.1 18
def ZT.ar (z : ZT) : Nat := z.1 19
def ZT.a0 (z : ZT) : Nat := z.1 20
def ZT.av (z : ZT) : Nat := z.1 21
def ZT.a1 (z : ZT) : Nat := z.1 22
def ZT.a2 (z : ZT) : Nat := z.1 23
def ZT.an (z : ZT) : Nat := z.1 24
def ZT.ae (z : ZT) : Nat := z.1 25
def ZT.af (z : ZT) : Nat := z.1 26
def ZT.ac (z : ZT) : Nat := z.1 27
def ZT.m0 (z : ZT) : Nat := z.1 28
def ZT.rO (z : ZT) : Nat := z.1 29
def ZT.rU (z : ZT) : Nat := z.1 30
def ZT.rT (z : ZT) : Nat := z.1 31
def ZT.rS (z : ZT) : Nat := z.1 32
def ZT.rB (z : ZT) : Nat := z.1 33
def ZT.rP (z : ZT) : Nat := z.1 34
def ZT.rG (z : ZT) : Nat := z.1 35
def ZT.rM (z : ZT) : Nat := z.1 36
def ZT.rN (z : ZT) : Nat := z.1 37
def ZT.rL (z : ZT) : Nat := z.1 38
def ZT.rZ (z : ZT) : Nat := z.1 39
def ZT.rE (z : ZT) : Nat := z.1 40
def ZT.rI (z : ZT) : Nat := z.1 41
def ZT.rA (z : ZT) : Nat := z.1 42
def ZT.rX (z : ZT) : Nat := z.1 43
def ZT.rV (z : ZT) : Nat := z.1 44
def ZT.rW (z : ZT) : Nat := z.1 45
def ZT.rC (z : ZT) : Nat := z.1 46
def ZT.rF (z : ZT) : Nat := z.1 47
def ZT.rQ (z : ZT) : Nat := z.1 48
def ZT.rK (z : ZT) : Nat := z.1 49
def ZT.rR (z : ZT) : Nat := z.1 50
def ZT.rD (z : ZT) : Nat := z.1 51
def ZT.sq (z : ZT) : Nat → Nat := z.2.1 0
def ZT.si (z : ZT) : Nat → Nat := z.2.1 1
def ZT.lq (z : ZT) : Nat → Nat := z.2.1 2
def ZT.lb (z : ZT) : Nat → Nat := z.2.1 3
def ZT.U (z : ZT) : Nat → Nat := z.2.1 4
def ZT.s_U (z : ZT) (v : Nat → Nat) : ZT := (z.1, zu z.2.1 4 v, z.2.2.1, z.2.2.2.1, z.2.2.2.2.1, z.2.2.2.2.2.1, z.2.2.2.2.2.2.1, z.2.2.2.2.2.2.2.1, z.2.2.2.2.2.2.2.2.1, z.2.2.2.2.2.2.2.2.2)
def ZT.V (z : ZT) : Nat → Nat := z.2.1 5
def ZT.s_V (z : ZT) (v : Nat → Nat) : ZT := (z.1, zu z.2.1 5 v, z.2.2.1, z.2.2.2.1, z.2.2.2.2.1, z.2.2.2.2.2.1, z.2.2.2.2.2.2.1, z.2.2.2.2.2.2.2.1, z.2.2.2.2.2.2.2.2.1, z.2.2.2.2.2.2.2.2.2)
def ZT.M (z : ZT) : Nat → Nat := z.2.1 6
def ZT.s_M (z : ZT) (v : Nat → Nat) : ZT := (z.1, zu z.2.1 6 v, z.2.2.1, z.2.2.2.1, z.2.2.2.2.1, z.2.2.2.2.2.1, z.2.2.2.2.2.2.1, z.2.2.2.2.2.2.2.1, z.2.2.2.2.2.2.2.2.1, z.2.2.2.2.2.2.2.2.2)
def ZT.Ti (z : ZT) : Nat → Nat := z.2.1 7
def ZT.s_Ti (z : ZT) (v : Nat → Nat) : ZT := (z.1, zu z.2.1 7 v, z.2.2.1, z.2.2.2.1, z.2.2.2.2.1, z.2.2.2.2.2.1, z.2.2.2.2.2.2.1, z.2.2.2.2.2.2.2.1, z.2.2.2.2.2.2.2.2.1, z.2.2.2.2.2.2.2.2.2)
def ZT.Tn (z : ZT) : Nat → Nat := z.2.1 8
def ZT.s_Tn (z : ZT) (v : Nat → Nat) : ZT := (z.1, zu z.2.1 8 v, z.2.2.1, z.2.2.2.1, z.2.2.2.2.1, z.2.2.2.2.2.1, z.2.2.2.2.2.2.1, z.2.2.2.2.2.2.2.1, z.2.2.2.2.2.2.2.2.1, z.2.2.2.2.2.2.2.2.2)
def ZT.Sz (z : ZT) : Nat → Nat := z.2.1 9
def ZT.s_Sz (z : ZT) (v : Nat → Nat) : ZT := (z.1, zu z.2.1 9 v, z.2.2.1, z.2.2.2.1, z.2.2.2.2.1, z.2.2.2.2.2.1, z.2.2.2.2.2.2.1, z.2.2.2.2.2.2.2.1, z.2.2.2.2.2.2.2.2.1, z.2.2.2.2.2.2.2.2.2)
def ZT.st (z : ZT) : Nat → Nat := z.2.1 10
def ZT.s_st (z : ZT) (v : Nat → Nat) : ZT := (z.1, zu z.2.1 10 v, z.2.2.1, z.2.2.2.1, z.2.2.2.2.1, z.2.2.2.2.2.1, z.2.2.2.2.2.2.1, z.2.2.2.2.2.2.2.1, z.2.2.2.2.2.2.2.2.1, z.2.2.2.2.2.2.2.2.2)
def ZT.Sp (z : ZT) : Nat → Nat := z.2.1 11
def ZT.s_Sp (z : ZT) (v : Nat → Nat) : ZT := (z.1, zu z.2.1 11 v, z.2.2.1, z.2.2.2.1, z.2.2.2.2.1, z.2.2.2.2.2.1, z.2.2.2.2.2.2.1, z.2.2.2.2.2.2.2.1, z.2.2.2.2.2.2.2.2.1, z.2.2.2.2.2.2.2.2.2)
def ZT.Nu (z : ZT) : Nat → Nat := z.2.1 12
def ZT.s_Nu (z : ZT) (v : Nat → Nat) : ZT := (z.1, zu z.2.1 12 v, z.2.2.1, z.2.2.2.1, z.2.2.2.2.1, z.2.2.2.2.2.1, z.2.2.2.2.2.2.1, z.2.2.2.2.2.2.2.1, z.2.2.2.2.2.2.2.2.1, z.2.2.2.2.2.2.2.2.2)
def ZT.Ex (z : ZT) : Nat → Nat := z.2.1 13
def ZT.s_Ex (z : ZT) (v : Nat → Nat) : ZT := (z.1, zu z.2.1 13 v, z.2.2.1, z.2.2.2.1, z.2.2.2.2.1, z.2.2.2.2.2.1, z.2.2.2.2.2.2.1, z.2.2.2.2.2.2.2.1, z.2.2.2.2.2.2.2.2.1, z.2.2.2.2.2.2.2.2.2)
def ZT.Fw (z : ZT) : Nat → Nat := z.2.1 14
def ZT.s_Fw (z : ZT) (v : Nat → Nat) : ZT := (z.1, zu z.2.1 14 v, z.2.2.1, z.2.2.2.1, z.2.2.2.2.1, z.2.2.2.2.2.1, z.2.2.2.2.2.2.1, z.2.2.2.2.2.2.2.1, z.2.2.2.2.2.2.2.2.1, z.2.2.2.2.2.2.2.2.2)
def ZT.Ch (z : ZT) : Nat → Nat := z.2.1 15
def ZT.s_Ch (z : ZT) (v : Nat → Nat) : ZT := (z.1, zu z.2.1 15 v, z.2.2.1, z.2.2.2.1, z.2.2.2.2.1, z.2.2.2.2.2.1, z.2.2.2.2.2.2.1, z.2.2.2.2.2.2.2.1, z.2.2.2.2.2.2.2.2.1, z.2.2.2.2.2.2.2.2.2)
def ZT.Cv (z : ZT) : Nat → Nat := z.2.1 16
def ZT.s_Cv (z : ZT) (v : Nat → Nat) : ZT := (z.1, zu z.2.1 16 v, z.2.2.1, z.2.2.2.1, z.2.2.2.2.1, z.2.2.2.2.2.1, z.2.2.2.2.2.2.1, z.2.2.2.2.2.2.2.1, z.2.2.2.2.2.2.2.2.1, z.2.2.2.2.2.2.2.2.2)
def ZT.FF (z : ZT) : Nat → Nat := z.2.1 17
def ZT.s_FF (z : ZT) (v : Nat → Nat) : ZT := (z.1, zu z.2.1 17 v, z.2.2.1, z.2.2.2.1, z.2.2.2.2.1, z.2.2.2.2.2.1, z.2.2.2.2.2.2.1, z.2.2.2.2.2.2.2.1, z.2.2.2.2.2.2.2.2.1, z.2.2.2.2.2.2.2.2.2)
def ZT.Mn (z : ZT) : Nat → Nat := z.2.1 18
def ZT.s_Mn (z : ZT) (v : Nat → Nat) : ZT := (z.1, zu z.2.1 18 v, z.2.2.1, z.2.2.2.1, z.2.2.2.2.1, z.2.2.2.2.2.1, z.2.2.2.2.2.2.1, z.2.2.2.2.2.2.2.1, z.2.2.2.2.2.2.2.2.1, z.2.2.2.2.2.2.2.2.2)
def ZT.Te (z : ZT) : Nat → Nat := z.2.1 19
def ZT.s_Te (z : ZT) (v : Nat → Nat) : ZT := (z.1, zu z.2.1 19 v, z.2.2.1, z.2.2.2.1, z.2.2.2.2.1, z.2.2.2.2.2.1, z.2.2.2.2.2.2.1, z.2.2.2.2.2.2.2.1, z.2.2.2.2.2.2.2.2.1, z.2.2.2.2.2.2.2.2.2)
def ZT.Si (z : ZT) : Nat → Nat := z.2.1 20
def ZT.s_Si (z : ZT) (v : Nat → Nat) : ZT := (z.1, zu z.2.1 20 v, z.2.2.1, z.2.2.2.1, z.2.2.2.2.1, z.2.2.2.2.2.1, z.2.2.2.2.2.2.1, z.2.2.2.2.2.2.2.1, z.2.2.2.2.2.2.2.2.1, z.2.2.2.2.2.2.2.2.2)
def ZT.Ba (z : ZT) : Nat → Nat := z.2.1 21
def ZT.s_Ba (z : ZT) (v : Nat → Nat) : ZT := (z.1, zu z.2.1 21 v, z.2.2.1, z.2.2.2.1, z.2.2.2.2.1, z.2.2.2.2.2.1, z.2.2.2.2.2.2.1, z.2.2.2.2.2.2.2.1, z.2.2.2.2.2.2.2.2.1, z.2.2.2.2.2.2.2.2.2)
def ZT.Sm (z : ZT) : Nat → Nat := z.2.1 22
def ZT.s_Sm (z : ZT) (v : Nat → Nat) : ZT := (z.1, zu z.2.1 22 v, z.2.2.1, z.2.2.2.1, z.2.2.2.2.1, z.2.2.2.2.2.1, z.2.2.2.2.2.2.1, z.2.2.2.2.2.2.2.1, z.2.2.2.2.2.2.2.2.1, z.2.2.2.2.2.2.2.2.2)
def ZT.Gr (z : ZT) : Nat → Nat := z.2.1 23
def ZT.s_Gr (z : ZT) (v : Nat → Nat) : ZT := (z.1, zu z.2.1 23 v, z.2.2.1, z.2.2.2.1, z.2.2.2.2.1, z.2.2.2.2.2.1, z.2.2.2.2.2.2.1, z.2.2.2.2.2.2.2.1, z.2.2.2.2.2.2.2.2.1, z.2.2.2.2.2.2.2.2.2)
def ZT.fo (z : ZT) : Nat → Option Nat := z.2.2.1 0
def ZT.s_fo (z : ZT) (v : Nat → Option Nat) : ZT := (z.1, z.2.1, zu z.2.2.1 0 v, z.2.2.2.1, z.2.2.2.2.1, z.2.2.2.2.2.1, z.2.2.2.2.2.2.1, z.2.2.2.2.2.2.2.1, z.2.2.2.2.2.2.2.2.1, z.2.2.2.2.2.2.2.2.2)
def ZT.fg (z : ZT) : Nat → Option Nat := z.2.2.1 1
def ZT.s_fg (z : ZT) (v : Nat → Option Nat) : ZT := (z.1, z.2.1, zu z.2.2.1 1 v, z.2.2.2.1, z.2.2.2.2.1, z.2.2.2.2.2.1, z.2.2.2.2.2.2.1, z.2.2.2.2.2.2.2.1, z.2.2.2.2.2.2.2.2.1, z.2.2.2.2.2.2.2.2.2)
def ZT.fr (z : ZT) : Nat → Option Nat := z.2.2.1 2
def ZT.s_fr (z : ZT) (v : Nat → Option Nat) : ZT := (z.1, z.2.1, zu z.2.2.1 2 v, z.2.2.2.1, z.2.2.2.2.1, z.2.2.2.2.2.1, z.2.2.2.2.2.2.1, z.2.2.2.2.2.2.2.1, z.2.2.2.2.2.2.2.2.1, z.2.2.2.2.2.2.2.2.2)
def ZT.fs (z : ZT) : Nat → Option Nat := z.2.2.1 3
def ZT.fd (z : ZT) : Nat → Option Nat := z.2.2.1 4
def ZT.wA (z : ZT) : Int32 := z.2.2.2.1 0
def ZT.s_wA (z : ZT) (v : Int32) : ZT := (z.1, z.2.1, z.2.2.1, zu z.2.2.2.1 0 v, z.2.2.2.2.1, z.2.2.2.2.2.1, z.2.2.2.2.2.2.1, z.2.2.2.2.2.2.2.1, z.2.2.2.2.2.2.2.2.1, z.2.2.2.2.2.2.2.2.2)
def ZT.wB (z : ZT) : Int32 := z.2.2.2.1 1
def ZT.s_wB (z : ZT) (v : Int32) : ZT := (z.1, z.2.1, z.2.2.1, zu z.2.2.2.1 1 v, z.2.2.2.2.1, z.2.2.2.2.2.1, z.2.2.2.2.2.2.1, z.2.2.2.2.2.2.2.1, z.2.2.2.2.2.2.2.2.1, z.2.2.2.2.2.2.2.2.2)
def ZT.md (z : ZT) : Int32 := z.2.2.2.1 2
def ZT.s_md (z : ZT) (v : Int32) : ZT := (z.1, z.2.1, z.2.2.1, zu z.2.2.2.1 2 v, z.2.2.2.2.1, z.2.2.2.2.2.1, z.2.2.2.2.2.2.1, z.2.2.2.2.2.2.2.1, z.2.2.2.2.2.2.2.2.1, z.2.2.2.2.2.2.2.2.2)
def ZT.tl (z : ZT) : Int32 := z.2.2.2.1 3
def ZT.s_tl (z : ZT) (v : Int32) : ZT := (z.1, z.2.1, z.2.2.1, zu z.2.2.2.1 3 v, z.2.2.2.2.1, z.2.2.2.2.2.1, z.2.2.2.2.2.2.1, z.2.2.2.2.2.2.2.1, z.2.2.2.2.2.2.2.2.1, z.2.2.2.2.2.2.2.2.2)
def ZT.cd (z : ZT) : Int32 := z.2.2.2.1 4
def ZT.s_cd (z : ZT) (v : Int32) : ZT := (z.1, z.2.1, z.2.2.1, zu z.2.2.2.1 4 v, z.2.2.2.2.1, z.2.2.2.2.2.1, z.2.2.2.2.2.2.1, z.2.2.2.2.2.2.2.1, z.2.2.2.2.2.2.2.2.1, z.2.2.2.2.2.2.2.2.2)
def ZT.tg (z : ZT) : Int32 := z.2.2.2.1 5
def ZT.s_tg (z : ZT) (v : Int32) : ZT := (z.1, z.2.1, z.2.2.1, zu z.2.2.2.1 5 v, z.2.2.2.2.1, z.2.2.2.2.2.1, z.2.2.2.2.2.2.1, z.2.2.2.2.2.2.2.1, z.2.2.2.2.2.2.2.2.1, z.2.2.2.2.2.2.2.2.2)
def ZT.sz (z : ZT) : Int32 := z.2.2.2.1 6
def ZT.s_sz (z : ZT) (v : Int32) : ZT := (z.1, z.2.1, z.2.2.1, zu z.2.2.2.1 6 v, z.2.2.2.2.1, z.2.2.2.2.2.1, z.2.2.2.2.2.2.1, z.2.2.2.2.2.2.2.1, z.2.2.2.2.2.2.2.2.1, z.2.2.2.2.2.2.2.2.2)
def ZT.ld (z : ZT) : Int32 := z.2.2.2.1 7
def ZT.s_ld (z : ZT) (v : Int32) : ZT := (z.1, z.2.1, z.2.2.1, zu z.2.2.2.1 7 v, z.2.2.2.2.1, z.2.2.2.2.2.1, z.2.2.2.2.2.2.1, z.2.2.2.2.2.2.2.1, z.2.2.2.2.2.2.2.2.1, z.2.2.2.2.2.2.2.2.2)
def ZT.hc (z : ZT) : Int32 := z.2.2.2.1 8
def ZT.s_hc (z : ZT) (v : Int32) : ZT := (z.1, z.2.1, z.2.2.1, zu z.2.2.2.1 8 v, z.2.2.2.2.1, z.2.2.2.2.2.1, z.2.2.2.2.2.2.1, z.2.2.2.2.2.2.2.1, z.2.2.2.2.2.2.2.2.1, z.2.2.2.2.2.2.2.2.2)
def ZT.hd (z : ZT) : Nat → Int32 := z.2.2.2.2.1 0
def ZT.s_hd (z : ZT) (v : Nat → Int32) : ZT := (z.1, z.2.1, z.2.2.1, z.2.2.2.1, zu z.2.2.2.2.1 0 v, z.2.2.2.2.2.1, z.2.2.2.2.2.2.1, z.2.2.2.2.2.2.2.1, z.2.2.2.2.2.2.2.2.1, z.2.2.2.2.2.2.2.2.2)
def ZT.ln (z : ZT) : Nat → Int32 := z.2.2.2.2.1 1
def ZT.s_ln (z : ZT) (v : Nat → Int32) : ZT := (z.1, z.2.1, z.2.2.1, z.2.2.2.1, zu z.2.2.2.2.1 1 v, z.2.2.2.2.2.1, z.2.2.2.2.2.2.1, z.2.2.2.2.2.2.2.1, z.2.2.2.2.2.2.2.2.1, z.2.2.2.2.2.2.2.2.2)
def ZT.La (z : ZT) : Nat → Int32 := z.2.2.2.2.1 2
def ZT.s_La (z : ZT) (v : Nat → Int32) : ZT := (z.1, z.2.1, z.2.2.1, z.2.2.2.1, zu z.2.2.2.2.1 2 v, z.2.2.2.2.2.1, z.2.2.2.2.2.2.1, z.2.2.2.2.2.2.2.1, z.2.2.2.2.2.2.2.2.1, z.2.2.2.2.2.2.2.2.2)
def ZT.It (z : ZT) : Nat → Int32 := z.2.2.2.2.1 3
def ZT.s_It (z : ZT) (v : Nat → Int32) : ZT := (z.1, z.2.1, z.2.2.1, z.2.2.2.1, zu z.2.2.2.2.1 3 v, z.2.2.2.2.2.1, z.2.2.2.2.2.2.1, z.2.2.2.2.2.2.2.1, z.2.2.2.2.2.2.2.2.1, z.2.2.2.2.2.2.2.2.2)
def ZT.gg (z : ZT) : Nat → Int32 := z.2.2.2.2.1 4
def ZT.s_gg (z : ZT) (v : Nat → Int32) : ZT := (z.1, z.2.1, z.2.2.1, z.2.2.2.1, zu z.2.2.2.2.1 4 v, z.2.2.2.2.2.1, z.2.2.2.2.2.2.1, z.2.2.2.2.2.2.2.1, z.2.2.2.2.2.2.2.2.1, z.2.2.2.2.2.2.2.2.2)
def ZT.mm (z : ZT) : Nat → Int32 := z.2.2.2.2.1 5
def ZT.s_mm (z : ZT) (v : Nat → Int32) : ZT := (z.1, z.2.1, z.2.2.1, z.2.2.2.1, zu z.2.2.2.2.1 5 v, z.2.2.2.2.2.1, z.2.2.2.2.2.2.1, z.2.2.2.2.2.2.2.1, z.2.2.2.2.2.2.2.2.1, z.2.2.2.2.2.2.2.2.2)
def ZT.To (z : ZT) : Nat → Int32 := z.2.2.2.2.1 6
def ZT.s_To (z : ZT) (v : Nat → Int32) : ZT := (z.1, z.2.1, z.2.2.1, z.2.2.2.1, zu z.2.2.2.2.1 6 v, z.2.2.2.2.2.1, z.2.2.2.2.2.2.1, z.2.2.2.2.2.2.2.1, z.2.2.2.2.2.2.2.2.1, z.2.2.2.2.2.2.2.2.2)
def ZT.Bo (z : ZT) : Nat → Int32 := z.2.2.2.2.1 7
def ZT.s_Bo (z : ZT) (v : Nat → Int32) : ZT := (z.1, z.2.1, z.2.2.1, z.2.2.2.1, zu z.2.2.2.2.1 7 v, z.2.2.2.2.2.1, z.2.2.2.2.2.2.1, z.2.2.2.2.2.2.2.1, z.2.2.2.2.2.2.2.2.1, z.2.2.2.2.2.2.2.2.2)
def ZT.mid (z : ZT) : Nat → Int32 := z.2.2.2.2.1 8
def ZT.s_mid (z : ZT) (v : Nat → Int32) : ZT := (z.1, z.2.1, z.2.2.1, z.2.2.2.1, zu z.2.2.2.2.1 8 v, z.2.2.2.2.2.1, z.2.2.2.2.2.2.1, z.2.2.2.2.2.2.2.1, z.2.2.2.2.2.2.2.2.1, z.2.2.2.2.2.2.2.2.2)
def ZT.wr (z : ZT) : Nat → Int32 := z.2.2.2.2.1 9
def ZT.s_wr (z : ZT) (v : Nat → Int32) : ZT := (z.1, z.2.1, z.2.2.1, z.2.2.2.1, zu z.2.2.2.2.1 9 v, z.2.2.2.2.2.1, z.2.2.2.2.2.2.1, z.2.2.2.2.2.2.2.1, z.2.2.2.2.2.2.2.2.1, z.2.2.2.2.2.2.2.2.2)
def ZT.Wd (z : ZT) : Nat → Int32 := z.2.2.2.2.1 10
def ZT.s_Wd (z : ZT) (v : Nat → Int32) : ZT := (z.1, z.2.1, z.2.2.1, z.2.2.2.1, zu z.2.2.2.2.1 10 v, z.2.2.2.2.2.1, z.2.2.2.2.2.2.1, z.2.2.2.2.2.2.2.1, z.2.2.2.2.2.2.2.2.1, z.2.2.2.2.2.2.2.2.2)
def ZT.Rd (z : ZT) : Nat → Int32 := z.2.2.2.2.1 11
def ZT.s_Rd (z : ZT) (v : Nat → Int32) : ZT := (z.1, z.2.1, z.2.2.1, z.2.2.2.1, zu z.2.2.2.2.1 11 v, z.2.2.2.2.2.1, z.2.2.2.2.2.2.1, z.2.2.2.2.2.2.2.1, z.2.2.2.2.2.2.2.2.1, z.2.2.2.2.2.2.2.2.2)
def ZT.Nm (z : ZT) : Nat → Int32 := z.2.2.2.2.1 12
def ZT.s_Nm (z : ZT) (v : Nat → Int32) : ZT := (z.1, z.2.1, z.2.2.1, z.2.2.2.1, zu z.2.2.2.2.1 12 v, z.2.2.2.2.2.1, z.2.2.2.2.2.2.1, z.2.2.2.2.2.2.2.1, z.2.2.2.2.2.2.2.2.1, z.2.2.2.2.2.2.2.2.2)
def ZT.f (z : ZT) : Nat → Nat → Int32 := z.2.2.2.2.2.1 0
def ZT.s_f (z : ZT) (v : Nat → Nat → Int32) : ZT := (z.1, z.2.1, z.2.2.1, z.2.2.2.1, z.2.2.2.2.1, zu z.2.2.2.2.2.1 0 v, z.2.2.2.2.2.2.1, z.2.2.2.2.2.2.2.1, z.2.2.2.2.2.2.2.2.1, z.2.2.2.2.2.2.2.2.2)
def ZT.lf (z : ZT) : Nat → Nat → Int32 := z.2.2.2.2.2.1 1
def ZT.s_lf (z : ZT) (v : Nat → Nat → Int32) : ZT := (z.1, z.2.1, z.2.2.1, z.2.2.2.1, z.2.2.2.2.1, zu z.2.2.2.2.2.1 1 v, z.2.2.2.2.2.2.1, z.2.2.2.2.2.2.2.1, z.2.2.2.2.2.2.2.2.1, z.2.2.2.2.2.2.2.2.2)
def ZT.Su (z : ZT) : Nat → Int64 := z.2.2.2.2.2.2.1 0
def ZT.s_Su (z : ZT) (v : Nat → Int64) : ZT := (z.1, z.2.1, z.2.2.1, z.2.2.2.1, z.2.2.2.2.1, z.2.2.2.2.2.1, zu z.2.2.2.2.2.2.1 0 v, z.2.2.2.2.2.2.2.1, z.2.2.2.2.2.2.2.2.1, z.2.2.2.2.2.2.2.2.2)
def ZT.ux (z : ZT) : Int64 := z.2.2.2.2.2.2.2.1 0
def ZT.s_ux (z : ZT) (v : Int64) : ZT := (z.1, z.2.1, z.2.2.1, z.2.2.2.1, z.2.2.2.2.1, z.2.2.2.2.2.1, z.2.2.2.2.2.2.1, zu z.2.2.2.2.2.2.2.1 0 v, z.2.2.2.2.2.2.2.2.1, z.2.2.2.2.2.2.2.2.2)
def ZT.uy (z : ZT) : Int64 := z.2.2.2.2.2.2.2.1 1
def ZT.s_uy (z : ZT) (v : Int64) : ZT := (z.1, z.2.1, z.2.2.1, z.2.2.2.1, z.2.2.2.2.1, z.2.2.2.2.2.1, z.2.2.2.2.2.2.1, zu z.2.2.2.2.2.2.2.1 1 v, z.2.2.2.2.2.2.2.2.1, z.2.2.2.2.2.2.2.2.2)
def ZT.L (z : ZT) : List Nat := z.2.2.2.2.2.2.2.2.1 0
def ZT.s_L (z : ZT) (v : List Nat) : ZT := (z.1, z.2.1, z.2.2.1, z.2.2.2.1, z.2.2.2.2.1, z.2.2.2.2.2.1, z.2.2.2.2.2.2.1, z.2.2.2.2.2.2.2.1, zu z.2.2.2.2.2.2.2.2.1 0 v, z.2.2.2.2.2.2.2.2.2)
def ZT.ps (z : ZT) : List PRt := z.2.2.2.2.2.2.2.2.2 0
def ZT.s_ps (z : ZT) (v : List PRt) : ZT := (z.1, z.2.1, z.2.2.1, z.2.2.2.1, z.2.2.2.2.1, z.2.2.2.2.2.1, z.2.2.2.2.2.2.1, z.2.2.2.2.2.2.2.1, z.2.2.2.2.2.2.2.2.1, zu z.2.2.2.2.2.2.2.2.2 0 v)
def wC (E : EnvT) (z : ZT) : va_W := [(z.g0, .inr (8, [.ref z.gm, .ref z.gk, .ref z.gs, .ref z.ga, .ref z.gl, .ref z.gh, .ref z.gd, .int z.wA, .int z.wB, .int (nI z.un)])), (z.gm, .inr (3, [.ref z.aa, .ref z.ab, .ref z.ao, .ref z.ag, .ref z.ar, .int (nI z.sh), .int (nI z.rg)])), (z.aa, .inl (E.2 2, 4, .inr (.inl (lA z.U)))), (z.ab, .inl (E.2 2, 4, .inr (.inl (lA z.V)))), (z.ao, .inl (E.2 4, 4, .inr (.inr (.inr (.inr z.fo))))), (z.ag, .inl (E.2 4, 4, .inr (.inr (.inr (.inr z.fg))))), (z.ar, .inl (E.2 4, 32, .inr (.inr (.inr (.inr z.fr))))), (z.gk, .inr (4, [.ref z.a0, .int (nI z.L.length), .int (nI z.k), .int (nI z.lt)])), (z.a0, .inl (E.2 1, 120, .inl (nA z.M))), (z.gs, .inl (E.2 5, 4, .inr (.inr (.inr (.inr z.fs))))), (z.ga, .inr (5, [.ref z.av, .int z.tl])), (z.av, .inl (E.2 1, 32, .inl z.gg)), (z.gl, .inr (1, [.ref z.a1, .ref z.a2, .int (nI z.n), .int (nI z.th)])), (z.a1, .inl (E.2 1, 12, .inl z.To)), (z.a2, .inl (E.2 1, 12, .inl z.Bo)), (z.gh, .inr (0, [.ref z.an, .ref z.ae, .ref z.af, .ref z.ac, .int z.cd, .int z.tg, .int z.sz, .int z.ld])), (z.an, .inl (E.2 1, 39, .inl (nA z.Nu))), (z.ae, .inl (E.2 1, 39, .inl (nA z.Ex))), (z.af, .inl (E.2 0, 4096, .inl (nA z.Fw))), (z.ac, .inl (E.2 1, 12, .inl (nA z.Ch))), (z.gd, .inl (E.2 6, 4, .inr (.inr (.inr (.inr z.fd))))), (z.sq 0, .inr (7, [.ref (z.si 0), .int (z.hd 0), .int (z.ln 0), .int (nI (z.Sz 0)), .int (nI (z.st 0))])), (z.si 0, .inl (E.2 1, 200, .inl (z.f 0))), (z.sq 1, .inr (7, [.ref (z.si 1), .int (z.hd 1), .int (z.ln 1), .int (nI (z.Sz 1)), .int (nI (z.st 1))])), (z.si 1, .inl (E.2 1, 200, .inl (z.f 1))), (z.sq 2, .inr (7, [.ref (z.si 2), .int (z.hd 2), .int (z.ln 2), .int (nI (z.Sz 2)), .int (nI (z.st 2))])), (z.si 2, .inl (E.2 1, 200, .inl (z.f 2))), (z.sq 3, .inr (7, [.ref (z.si 3), .int (z.hd 3), .int (z.ln 3), .int (nI (z.Sz 3)), .int (nI (z.st 3))])), (z.si 3, .inl (E.2 1, 200, .inl (z.f 3))), (z.lq 0, .inr (2, [.ref (z.lb 0), .int (nI (z.Mn 0)), .int (z.mid 0), .int (z.wr 0)])), (z.lb 0, .inl (E.2 1, 200, .inl (z.lf 0))), (z.lq 1, .inr (2, [.ref (z.lb 1), .int (nI (z.Mn 1)), .int (z.mid 1), .int (z.wr 1)])), (z.lb 1, .inl (E.2 1, 200, .inl (z.lf 1))), (z.lq 2, .inr (2, [.ref (z.lb 2), .int (nI (z.Mn 2)), .int (z.mid 2), .int (z.wr 2)])), (z.lb 2, .inl (E.2 1, 200, .inl (z.lf 2))), (z.lq 3, .inr (2, [.ref (z.lb 3), .int (nI (z.Mn 3)), .int (z.mid 3), .int (z.wr 3)])), (z.lb 3, .inl (E.2 1, 200, .inl (z.lf 3)))]
def wM (E : EnvT) (z : ZT) : va_W := [(z.m0, .inr (9, [.int (nI z.sh), .ref z.rO, .ref z.rU, .ref z.rT, .int (nI z.rg), .ref z.rS, .ref z.rB, .ref z.rP, .ref z.rG, .long z.ux, .long z.uy, .int (nI z.k), .ref z.rM, .int z.md, .ref z.rN, .ref z.rL, .ref z.rZ, .ref z.rE, .ref z.rI, .int z.hc, .ref z.rA, .ref z.rX, .int (nI z.n), .ref z.rV, .ref z.rW, .int (nI z.th), .ref z.rC, .ref z.rF, .ref z.rQ, .ref z.rK, .ref z.rR, .ref z.rD])), (z.rO, .inl (E.2 2, 4, .inr (.inl (lA z.U)))), (z.rU, .inl (E.2 2, 4, .inr (.inl (lA z.V)))), (z.rT, .inl (E.2 1, 4, .inl (nA z.Te))), (z.rS, .inl (E.2 1, 8, .inl (nA z.Si))), (z.rB, .inl (E.2 1, 8, .inl (nA z.Ba))), (z.rP, .inl (E.2 1, 8, .inl (nA z.Sm))), (z.rG, .inl (E.2 1, 8, .inl (nA z.Gr))), (z.rM, .inl (E.2 1, 60, .inl (nA z.Ti))), (z.rN, .inl (E.2 1, 120, .inl (nA z.Tn))), (z.rL, .inl (E.2 1, 4, .inl z.La)), (z.rZ, .inl (E.2 1, 4, .inl (nA z.Sz))), (z.rE, .inl (E.2 1, 4, .inl (nA z.Sp))), (z.rI, .inl (E.2 1, 800, .inl z.It)), (z.rA, .inl (E.2 1, 32, .inl z.mm)), (z.rX, .inl (E.2 2, 32, .inr (.inl z.Su))), (z.rV, .inl (E.2 1, 12, .inl z.To)), (z.rW, .inl (E.2 1, 12, .inl z.Bo)), (z.rC, .inl (E.2 1, 40, .inl (nA z.Cv))), (z.rF, .inl (E.2 1, 163840, .inl (nA z.FF))), (z.rQ, .inl (E.2 1, 3, .inl z.Nm)), (z.rK, .inl (E.2 1, 4, .inl (nA z.Mn))), (z.rR, .inl (E.2 1, 800, .inl z.Rd)), (z.rD, .inl (E.2 3, 4, .inl z.Wd))]
abbrev cvS (z : ZT) : Nat → Nat := covR z.sh z.rg z.U z.V z.Te z.Si z.Ba z.Sm z.Gr z.To z.Bo z.th z.n

def Rel (z : ZT) : Prop :=
  (ModM z.sh z.rg z.U z.V z.Te z.Si z.Ba z.Sm z.Gr) ∧
  (PsOk z.fo z.fg z.fr z.sh z.rg z.U z.V z.Te z.Si z.Ba z.Sm z.Gr z.ps) ∧
  (z.L = adAll z.Ti z.k) ∧
  (z.k ≤ 60) ∧
  (∀ j, j + 1 < z.k → z.Ti j < z.Ti (j + 1)) ∧
  (∀ j, j < z.k → z.Ti j ≤ 1000000) ∧
  (RLs z.M z.L) ∧
  (z.lt ≤ 1000000) ∧
  (0 < z.k → z.lt = z.Ti (z.k - 1)) ∧
  (∀ q, q < 4 → z.fs q = some (z.sq q)) ∧
  (∀ q, q < 4 → z.fd q = some (z.lq q)) ∧
  (∀ q, q < 4 → z.Sz q ≤ 200) ∧
  (∀ q, q < 4 → 1 ≤ z.st q ∧ z.st q ≤ 1000) ∧
  (∀ q, q < 4 → (z.hd q = 0 ∧ z.La q < 0) ∨ (¬ z.hd q = 0 ∧ ¬ z.La q < 0 ∧ z.ln q = z.La q ∧ z.st q = z.Sp q)) ∧
  (∀ q, q < 4 → ∀ j, j < 200 → z.f q j = z.It (200 * q + j)) ∧
  (∀ j, -30000 ≤ (z.It j).toInt ∧ (z.It j).toInt ≤ 30000) ∧
  (z.n ≤ 12) ∧
  (z.th ≤ 100) ∧
  (z.ld = 0 ∨ (¬ z.ld = 0 ∧ z.sz = nI (hpR (cvS z)).length ∧ z.tg = nI (orC (cvS z) 39) ∧ RLs z.Ch (hpR (cvS z)))) ∧
  (∀ j, z.Fw j ≤ 12) ∧
  (∀ i, z.Cv i < 4096) ∧
  (∀ q, q < 4 → z.Mn q ≤ 200) ∧
  (∀ q, q < 4 → 5 ≤ z.Mn q → z.mid q = fMd (fun j => z.Rd (200 * q + j))) ∧
  (∀ q, q < 4 → z.wr q = z.Wd q ∧ (z.Wd q = 0 ∨ z.Wd q = 1)) ∧
  (∀ q, q < 4 → ∀ j, j < 200 → z.lf q j = z.Rd (200 * q + j)) ∧
  (z.wA = z.Nm 0 ∧ z.wB = z.Nm 1 ∧ z.Nm 2 = nI z.un ∧ 1 ≤ z.un ∧ z.un ≤ 4)
theorem Rel.of {z : ZT} (hM : ModM z.sh z.rg z.U z.V z.Te z.Si z.Ba z.Sm z.Gr) (hps : PsOk z.fo z.fg z.fr z.sh z.rg z.U z.V z.Te z.Si z.Ba z.Sm z.Gr z.ps) (hL : z.L = adAll z.Ti z.k) (hk : z.k ≤ 60) (hti : ∀ j, j + 1 < z.k → z.Ti j < z.Ti (j + 1)) (htb : ∀ j, j < z.k → z.Ti j ≤ 1000000) (hR : RLs z.M z.L) (hlt : z.lt ≤ 1000000) (hla : 0 < z.k → z.lt = z.Ti (z.k - 1)) (hfs : ∀ q, q < 4 → z.fs q = some (z.sq q)) (hfd : ∀ q, q < 4 → z.fd q = some (z.lq q)) (hSz : ∀ q, q < 4 → z.Sz q ≤ 200) (hst : ∀ q, q < 4 → 1 ≤ z.st q ∧ z.st q ≤ 1000) (hsh : ∀ q, q < 4 → (z.hd q = 0 ∧ z.La q < 0) ∨ (¬ z.hd q = 0 ∧ ¬ z.La q < 0 ∧ z.ln q = z.La q ∧ z.st q = z.Sp q)) (hIt : ∀ q, q < 4 → ∀ j, j < 200 → z.f q j = z.It (200 * q + j)) (hIb : ∀ j, -30000 ≤ (z.It j).toInt ∧ (z.It j).toInt ≤ 30000) (hn : z.n ≤ 12) (hth : z.th ≤ 100) (hhp : z.ld = 0 ∨ (¬ z.ld = 0 ∧ z.sz = nI (hpR (cvS z)).length ∧ z.tg = nI (orC (cvS z) 39) ∧ RLs z.Ch (hpR (cvS z)))) (hFw : ∀ j, z.Fw j ≤ 12) (hCv : ∀ i, z.Cv i < 4096) (hMn : ∀ q, q < 4 → z.Mn q ≤ 200) (hmid : ∀ q, q < 4 → 5 ≤ z.Mn q → z.mid q = fMd (fun j => z.Rd (200 * q + j))) (hwr : ∀ q, q < 4 → z.wr q = z.Wd q ∧ (z.Wd q = 0 ∨ z.Wd q = 1)) (hlf : ∀ q, q < 4 → ∀ j, j < 200 → z.lf q j = z.Rd (200 * q + j)) (hNm : z.wA = z.Nm 0 ∧ z.wB = z.Nm 1 ∧ z.Nm 2 = nI z.un ∧ 1 ≤ z.un ∧ z.un ≤ 4) : Rel z := (And.intro hM (And.intro hps (And.intro hL (And.intro hk (And.intro hti (And.intro htb (And.intro hR (And.intro hlt (And.intro hla (And.intro hfs (And.intro hfd (And.intro hSz (And.intro hst (And.intro hsh (And.intro hIt (And.intro hIb (And.intro hn (And.intro hth (And.intro hhp (And.intro hFw (And.intro hCv (And.intro hMn (And.intro hmid (And.intro hwr (And.intro hlf hNm)))))))))))))))))))))))))
theorem Rel.hM {z : ZT} (h : Rel z) : ModM z.sh z.rg z.U z.V z.Te z.Si z.Ba z.Sm z.Gr := h.1
theorem Rel.hps {z : ZT} (h : Rel z) : PsOk z.fo z.fg z.fr z.sh z.rg z.U z.V z.Te z.Si z.Ba z.Sm z.Gr z.ps := h.2.1
theorem Rel.hL {z : ZT} (h : Rel z) : z.L = adAll z.Ti z.k := h.2.2.1
theorem Rel.hk {z : ZT} (h : Rel z) : z.k ≤ 60 := h.2.2.2.1
theorem Rel.hti {z : ZT} (h : Rel z) : ∀ j, j + 1 < z.k → z.Ti j < z.Ti (j + 1) := h.2.2.2.2.1
theorem Rel.htb {z : ZT} (h : Rel z) : ∀ j, j < z.k → z.Ti j ≤ 1000000 := h.2.2.2.2.2.1
theorem Rel.hR {z : ZT} (h : Rel z) : RLs z.M z.L := h.2.2.2.2.2.2.1
theorem Rel.hlt {z : ZT} (h : Rel z) : z.lt ≤ 1000000 := h.2.2.2.2.2.2.2.1
theorem Rel.hla {z : ZT} (h : Rel z) : 0 < z.k → z.lt = z.Ti (z.k - 1) := h.2.2.2.2.2.2.2.2.1
theorem Rel.hfs {z : ZT} (h : Rel z) : ∀ q, q < 4 → z.fs q = some (z.sq q) := h.2.2.2.2.2.2.2.2.2.1
theorem Rel.hfd {z : ZT} (h : Rel z) : ∀ q, q < 4 → z.fd q = some (z.lq q) := h.2.2.2.2.2.2.2.2.2.2.1
theorem Rel.hSz {z : ZT} (h : Rel z) : ∀ q, q < 4 → z.Sz q ≤ 200 := h.2.2.2.2.2.2.2.2.2.2.2.1
theorem Rel.hst {z : ZT} (h : Rel z) : ∀ q, q < 4 → 1 ≤ z.st q ∧ z.st q ≤ 1000 := h.2.2.2.2.2.2.2.2.2.2.2.2.1
theorem Rel.hsh {z : ZT} (h : Rel z) : ∀ q, q < 4 → (z.hd q = 0 ∧ z.La q < 0) ∨ (¬ z.hd q = 0 ∧ ¬ z.La q < 0 ∧ z.ln q = z.La q ∧ z.st q = z.Sp q) := h.2.2.2.2.2.2.2.2.2.2.2.2.2.1
theorem Rel.hIt {z : ZT} (h : Rel z) : ∀ q, q < 4 → ∀ j, j < 200 → z.f q j = z.It (200 * q + j) := h.2.2.2.2.2.2.2.2.2.2.2.2.2.2.1
theorem Rel.hIb {z : ZT} (h : Rel z) : ∀ j, -30000 ≤ (z.It j).toInt ∧ (z.It j).toInt ≤ 30000 := h.2.2.2.2.2.2.2.2.2.2.2.2.2.2.2.1
theorem Rel.hn {z : ZT} (h : Rel z) : z.n ≤ 12 := h.2.2.2.2.2.2.2.2.2.2.2.2.2.2.2.2.1
theorem Rel.hth {z : ZT} (h : Rel z) : z.th ≤ 100 := h.2.2.2.2.2.2.2.2.2.2.2.2.2.2.2.2.2.1
theorem Rel.hhp {z : ZT} (h : Rel z) : z.ld = 0 ∨ (¬ z.ld = 0 ∧ z.sz = nI (hpR (cvS z)).length ∧ z.tg = nI (orC (cvS z) 39) ∧ RLs z.Ch (hpR (cvS z))) := h.2.2.2.2.2.2.2.2.2.2.2.2.2.2.2.2.2.2.1
theorem Rel.hFw {z : ZT} (h : Rel z) : ∀ j, z.Fw j ≤ 12 := h.2.2.2.2.2.2.2.2.2.2.2.2.2.2.2.2.2.2.2.1
theorem Rel.hCv {z : ZT} (h : Rel z) : ∀ i, z.Cv i < 4096 := h.2.2.2.2.2.2.2.2.2.2.2.2.2.2.2.2.2.2.2.2.1
theorem Rel.hMn {z : ZT} (h : Rel z) : ∀ q, q < 4 → z.Mn q ≤ 200 := h.2.2.2.2.2.2.2.2.2.2.2.2.2.2.2.2.2.2.2.2.2.1
theorem Rel.hmid {z : ZT} (h : Rel z) : ∀ q, q < 4 → 5 ≤ z.Mn q → z.mid q = fMd (fun j => z.Rd (200 * q + j)) := h.2.2.2.2.2.2.2.2.2.2.2.2.2.2.2.2.2.2.2.2.2.2.1
theorem Rel.hwr {z : ZT} (h : Rel z) : ∀ q, q < 4 → z.wr q = z.Wd q ∧ (z.Wd q = 0 ∨ z.Wd q = 1) := h.2.2.2.2.2.2.2.2.2.2.2.2.2.2.2.2.2.2.2.2.2.2.2.1
theorem Rel.hlf {z : ZT} (h : Rel z) : ∀ q, q < 4 → ∀ j, j < 200 → z.lf q j = z.Rd (200 * q + j) := h.2.2.2.2.2.2.2.2.2.2.2.2.2.2.2.2.2.2.2.2.2.2.2.2.1
theorem Rel.hNm {z : ZT} (h : Rel z) : z.wA = z.Nm 0 ∧ z.wB = z.Nm 1 ∧ z.Nm 2 = nI z.un ∧ 1 ≤ z.un ∧ z.un ≤ 4 := h.2.2.2.2.2.2.2.2.2.2.2.2.2.2.2.2.2.2.2.2.2.2.2.2.2
theorem vaP_mem {D : va_G} {cl : List vw_C} {ws : va_W} {H : Heap} : va_P D cl ws H ↔ ∀ q ∈ ws, va_at D cl q H :=
  ⟨fun h q hq => by obtain ⟨i, hi⟩ := List.getElem?_of_mem hq; exact h i q hi, fun h k q hk => h q (List.mem_of_getElem? hk)⟩
theorem vaD_mem {A : Nat → Prop} {ws : va_W} : va_D A ws ↔ (ws.map (·.1)).Nodup ∧ ∀ q ∈ ws, A q.1 := by
  constructor
  · intro h
    refine ⟨?_, fun q hq => by obtain ⟨i, hi⟩ := List.getElem?_of_mem hq; exact h.2 i q hi⟩
    refine List.pairwise_iff_getElem.mpr (fun i j hi hj hij he => ?_)
    have hi' : i < ws.length := by simpa using hi
    have hj' : j < ws.length := by simpa using hj
    rw [List.getElem_map, List.getElem_map] at he
    have := h.1 i j _ _ (List.getElem?_eq_getElem hi') (List.getElem?_eq_getElem hj') he
    omega
  · intro h
    refine ⟨fun i j p q h1 h2 e => ?_, fun k q hk => h.2 q (List.mem_of_getElem? hk)⟩
    have n := List.pairwise_iff_getElem.mp h.1
    obtain ⟨l1, e1⟩ := List.getElem?_eq_some_iff.mp h1
    obtain ⟨l2, e2⟩ := List.getElem?_eq_some_iff.mp h2
    have l1' : i < (ws.map (·.1)).length := by simpa using l1
    have l2' : j < (ws.map (·.1)).length := by simpa using l2
    rcases Nat.lt_trichotomy i j with x | x | x
    · exact absurd (by rw [List.getElem_map, List.getElem_map, e1, e2]; exact e) (n i j l1' l2' x)
    · exact x
    · exact absurd (by rw [List.getElem_map, List.getElem_map, e1, e2]; exact e.symm) (n j i l2' l1' x)
theorem vaP_perm {D : va_G} {cl : List vw_C} {ws ws' : va_W} {H : Heap} (h : ws.Perm ws') (hP : va_P D cl ws H) : va_P D cl ws' H := vaP_mem.mpr (fun q hq => vaP_mem.mp hP q (h.mem_iff.mpr hq))
theorem vaD_perm {A : Nat → Prop} {ws ws' : va_W} (h : ws.Perm ws') (hD : va_D A ws) : va_D A ws' :=
  vaD_mem.mpr ⟨(h.map _).nodup_iff.mp (vaD_mem.mp hD).1, fun q hq => (vaD_mem.mp hD).2 q (h.mem_iff.mpr hq)⟩
theorem perm_swap3 (a b c : va_W) : (a ++ (b ++ c)).Perm (b ++ (a ++ c)) := by
  rw [← List.append_assoc, ← List.append_assoc]
  exact List.Perm.append_right c List.perm_append_comm
theorem vaP_l {D : va_G} {cl : List vw_C} {a b : va_W} {H : Heap} (h : va_P D cl (a ++ b) H) : va_P D cl a H := vaP_mem.mpr (fun q hq => vaP_mem.mp h q (List.mem_append_left _ hq))
theorem vaP_r {D : va_G} {cl : List vw_C} {a b : va_W} {H : Heap} (h : va_P D cl (a ++ b) H) : va_P D cl b H := vaP_mem.mpr (fun q hq => vaP_mem.mp h q (List.mem_append_right _ hq))
theorem pool_r {E : EnvT} {ps : List PRt} {r : PRt} {H : Heap} (hP : va_P E.1 vwCl (poolC E ps) H) (hr : r ∈ ps) : va_P E.1 vwCl (prC E r) H := vaP_mem.mpr (fun q hq => vaP_mem.mp hP q (List.mem_flatMap.mpr ⟨r, hr, hq⟩))
/-- what stays through the law -/

def LC (p : Program) (s : State) (m : MethodId) (c : Code) (b L : Nat) (xs : Nat → Int32) (E : EnvT) (tq : Nat) : Prop :=
  (p.tables.exec = Jvm.exec) ∧
  (c.code = code) ∧
  (c.maxLocals = 4) ∧
  (s.vm.findClass RL = some m.cls) ∧
  (∀ w ∈ wsL_law, w.before #[Value.ref b] s = true) ∧
  (va_X b L xs s s.heap) ∧
  (b < s.heap.size) ∧
  (EV E s) ∧
  (∀ H, (∀ q : Nat, q < s.heap.size → H[q]? = s.heap[q]?) → EQh tq s H) ∧
  (L ≤ 2560)
theorem LC.of {p : Program} {s : State} {m : MethodId} {c : Code} {b L : Nat} {xs : Nat → Int32} {E : EnvT} {tq : Nat} (hx : p.tables.exec = Jvm.exec) (hb : c.code = code) (hml : c.maxLocals = 4) (hown : s.vm.findClass RL = some m.cls) (hts : ∀ w ∈ wsL_law, w.before #[Value.ref b] s = true) (hX : va_X b L xs s s.heap) (hbl : b < s.heap.size) (hE : EV E s) (hQ : ∀ H, (∀ q : Nat, q < s.heap.size → H[q]? = s.heap[q]?) → EQh tq s H) (hL : L ≤ 2560) : LC p s m c b L xs E tq := (And.intro hx (And.intro hb (And.intro hml (And.intro hown (And.intro hts (And.intro hX (And.intro hbl (And.intro hE (And.intro hQ hL)))))))))
theorem LC.hx {p : Program} {s : State} {m : MethodId} {c : Code} {b L : Nat} {xs : Nat → Int32} {E : EnvT} {tq : Nat} (h : LC p s m c b L xs E tq) : p.tables.exec = Jvm.exec := h.1
theorem LC.hb {p : Program} {s : State} {m : MethodId} {c : Code} {b L : Nat} {xs : Nat → Int32} {E : EnvT} {tq : Nat} (h : LC p s m c b L xs E tq) : c.code = code := h.2.1
theorem LC.hml {p : Program} {s : State} {m : MethodId} {c : Code} {b L : Nat} {xs : Nat → Int32} {E : EnvT} {tq : Nat} (h : LC p s m c b L xs E tq) : c.maxLocals = 4 := h.2.2.1
theorem LC.hown {p : Program} {s : State} {m : MethodId} {c : Code} {b L : Nat} {xs : Nat → Int32} {E : EnvT} {tq : Nat} (h : LC p s m c b L xs E tq) : s.vm.findClass RL = some m.cls := h.2.2.2.1
theorem LC.hts {p : Program} {s : State} {m : MethodId} {c : Code} {b L : Nat} {xs : Nat → Int32} {E : EnvT} {tq : Nat} (h : LC p s m c b L xs E tq) : ∀ w ∈ wsL_law, w.before #[Value.ref b] s = true := h.2.2.2.2.1
theorem LC.hX {p : Program} {s : State} {m : MethodId} {c : Code} {b L : Nat} {xs : Nat → Int32} {E : EnvT} {tq : Nat} (h : LC p s m c b L xs E tq) : va_X b L xs s s.heap := h.2.2.2.2.2.1
theorem LC.hbl {p : Program} {s : State} {m : MethodId} {c : Code} {b L : Nat} {xs : Nat → Int32} {E : EnvT} {tq : Nat} (h : LC p s m c b L xs E tq) : b < s.heap.size := h.2.2.2.2.2.2.1
theorem LC.hE {p : Program} {s : State} {m : MethodId} {c : Code} {b L : Nat} {xs : Nat → Int32} {E : EnvT} {tq : Nat} (h : LC p s m c b L xs E tq) : EV E s := h.2.2.2.2.2.2.2.1
theorem LC.hQ {p : Program} {s : State} {m : MethodId} {c : Code} {b L : Nat} {xs : Nat → Int32} {E : EnvT} {tq : Nat} (h : LC p s m c b L xs E tq) : ∀ H, (∀ q : Nat, q < s.heap.size → H[q]? = s.heap[q]?) → EQh tq s H := h.2.2.2.2.2.2.2.2.1
theorem LC.hL {p : Program} {s : State} {m : MethodId} {c : Code} {b L : Nat} {xs : Nat → Int32} {E : EnvT} {tq : Nat} (h : LC p s m c b L xs E tq) : L ≤ 2560 := h.2.2.2.2.2.2.2.2.2
abbrev AA (s : State) : Nat → Prop := fun q => s.heap.size ≤ q
abbrev lvL (b : Nat) (z : ZT) (i : Nat) : List (Nat × Value) := [(0, .ref b), (1, .ref z.g0), (2, .ref z.m0), (3, .int (nI i))]

def At (E : EnvT) (s : State) (z : ZT) (H : Heap) (locs : List Loc) : Prop :=
  (va_P E.1 vwCl (wC E z ++ (wM E z ++ poolC E z.ps)) H) ∧
  (va_D (AA s) (wC E z ++ (wM E z ++ poolC E z.ps))) ∧
  (va_S (AA s) s.heap H locs)
theorem At.of {E : EnvT} {s : State} {z : ZT} {H : Heap} {locs : List Loc} (hP : va_P E.1 vwCl (wC E z ++ (wM E z ++ poolC E z.ps)) H) (hD : va_D (AA s) (wC E z ++ (wM E z ++ poolC E z.ps))) (hS : va_S (AA s) s.heap H locs) : At E s z H locs := (And.intro hP (And.intro hD hS))
theorem At.hP {E : EnvT} {s : State} {z : ZT} {H : Heap} {locs : List Loc} (h : At E s z H locs) : va_P E.1 vwCl (wC E z ++ (wM E z ++ poolC E z.ps)) H := h.1
theorem At.hD {E : EnvT} {s : State} {z : ZT} {H : Heap} {locs : List Loc} (h : At E s z H locs) : va_D (AA s) (wC E z ++ (wM E z ++ poolC E z.ps)) := h.2.1
theorem At.hS {E : EnvT} {s : State} {z : ZT} {H : Heap} {locs : List Loc} (h : At E s z H locs) : va_S (AA s) s.heap H locs := h.2.2
section LW
variable {p : Program} {l : Launch} {e : Env} {s : State} {m : MethodId} {below : List Frame} {meth : Method} {c : Code} {b L : Nat} {xs : Nat → Int32} {E : EnvT} {tq : Nat} {H : Heap} {locs : List Loc} {cells slots : Nat} {Q : State → Prop} {ls : Array Slot} {st : List Value} {i pc k : Nat} {z : ZT}
theorem ldA {v : Int32} {kI : Int} (C : LC p s m c b L xs E tq) (hl : lv_has ls 4 (lvL b z i)) (hi : i + 5 ≤ L) (hS : va_S (AA s) s.heap H locs) (hk : k ≤ 4) (hkI : Int32.ofInt kI = nI k) (d0 : decode code pc = .ok (.aload_n 0, 1)) (d1 : decode code (pc + 1) = .ok (.iload_n 3, 1)) (d2 : decode code (pc + 1 + 1) = .ok (.iconst kI, 1)) (d3 : decode code (pc + 1 + 1 + 1) = .ok (.iadd, 1)) (d4 : decode code (pc + 1 + 1 + 1 + 1) = .ok (.iaload, 1)) (hv : xs (i + k) = v)
    (kk : W p l e room_1 s m #[Value.ref b] below meth c H locs cells slots Q (F0 m (pc + 1 + 1 + 1 + 1 + 1) ls (.int v :: st))) : W p l e room_1 s m #[Value.ref b] below meth c H locs cells slots Q (F0 m pc ls st) := by
  have hL := C.hL
  refine lv_aload_n C.hx C.hb d0 rfl (lv_at hl 0 rfl) ?_
  refine lv_iload_n C.hx C.hb d1 rfl (lv_at hl 3 rfl) ?_
  refine lv_iconst (v := nI k) C.hx C.hb d2 hkI ?_
  refine lv_iadd C.hx C.hb d3 ?_
  have e1 : nI i + nI k = nI (i + k) := nI_add i k
  rw [e1]
  refine va_sld C.hx C.hb C.hX C.hbl (Nat.not_le.mpr C.hbl) hS (vp_in_nI (show i + k < L by omega) (by omega)) d4 ?_
  rw [nI_clamp (by omega), hv]
  exact kk
end LW
