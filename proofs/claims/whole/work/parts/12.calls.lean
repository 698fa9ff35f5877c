/-! the words of the functions that the methods compute: each answers none where something is asked that is not there -/
def zlet {α β : Type} (v : α) (k : α → β) : β := k v
theorem zlet_inv {α β : Type} {v : α} {k : α → β} {x : β} (h : zlet v k = x) : ∃ z, z = v ∧ k z = x := ⟨v, rfl, h⟩
def zx {α : Type} (i : Int32) (n : Nat) (k : Option α) : Option α := if i < 0 ∨ n ≤ i.toNatClampNeg then none else k
theorem zx_inv {α : Type} {i : Int32} {n : Nat} {k : Option α} {x : α} (h : zx i n k = some x) : vp_in i n ∧ k = some x := by
  unfold zx at h
  split at h
  · cases h
  · exact ⟨by assumption, h⟩
def zn {α : Type} (K : Nat → Nat) (o : Option Nat) (lab : Nat) (k : Nat → Option α) : Option α := match o with
  | none => none
  | some a => if K a = lab then k a else none
theorem zn_inv {α : Type} {K : Nat → Nat} {o : Option Nat} {lab : Nat} {k : Nat → Option α} {x : α} (h : zn K o lab k = some x) : ∃ a, o = some a ∧ K a = lab ∧ k a = some x := by
  unfold zn at h
  split at h
  · cases h
  · split at h
    · exact ⟨_, rfl, by assumption, h⟩
    · cases h
def zo {α : Type} (K : Nat → Nat) (o : Option Nat) (lab : Nat) (A : Option α) (B : Nat → Option α) : Option α := match o with
  | none => A
  | some a => if K a = lab then B a else none
theorem zo_inv {α : Type} {K : Nat → Nat} {o : Option Nat} {lab : Nat} {A : Option α} {B : Nat → Option α} {x : α} (h : zo K o lab A B = some x) : (o = none ∧ A = some x) ∨ ∃ a, o = some a ∧ K a = lab ∧ B a = some x := by
  unfold zo at h
  split at h
  · exact Or.inl ⟨rfl, h⟩
  · split at h
    · exact Or.inr ⟨_, rfl, by assumption, h⟩
    · cases h
def zz {α : Type} (v : Int32) (k : Option α) : Option α := if v = 0 ∨ v = 1 then k else none
theorem zz_inv {α : Type} {v : Int32} {k : Option α} {x : α} (h : zz v k = some x) : (v = 0 ∨ v = 1) ∧ k = some x := by
  unfold zz at h
  split at h
  · exact ⟨by assumption, h⟩
  · cases h
def zd {α : Type} (v : Int32) (k : Option α) : Option α := if v = 0 then none else k
theorem zd_inv {α : Type} {v : Int32} {k : Option α} {x : α} (h : zd v k = some x) : (¬ v = 0) ∧ k = some x := by
  unfold zd at h
  split at h
  · cases h
  · exact ⟨by assumption, h⟩
def zb {α β : Type} (x : Option α) (k : α → Option β) : Option β := match x with
  | none => none
  | some v => k v
theorem zb_inv {α β : Type} {x : Option α} {k : α → Option β} {y : β} (h : zb x k = some y) : ∃ v, x = some v ∧ k v = some y := by
  unfold zb at h
  split at h
  · cases h
  · exact ⟨_, rfl, h⟩
def zb2 {α β γ : Type} (x : Option (α × β)) (k : α → β → Option γ) : Option γ := match x with
  | none => none
  | some (u, v) => k u v
theorem zb2_inv {α β γ : Type} {x : Option (α × β)} {k : α → β → Option γ} {y : γ} (h : zb2 x k = some y) : ∃ u v, x = some (u, v) ∧ k u v = some y := by
  unfold zb2 at h
  split at h
  · cases h
  · exact ⟨_, _, rfl, h⟩
/-- a call that may throw: an error goes through -/
def zt {α β : Type} (x : Option (α ⊕ Nat)) (k : α → Option (β ⊕ Nat)) : Option (β ⊕ Nat) := match x with
  | none => none
  | some (.inl v) => k v
  | some (.inr e) => some (.inr e)
theorem zt_inv {α β : Type} {x : Option (α ⊕ Nat)} {k : α → Option (β ⊕ Nat)} {y : β ⊕ Nat} (h : zt x k = some y) : ∃ q, x = some q ∧ (∀ v, q = .inl v → k v = some y) ∧ ∀ e, q = .inr e → y = .inr e := by
  unfold zt at h
  split at h
  · cases h
  · exact ⟨_, rfl, fun v hv => by cases hv; exact h, fun e he => by cases he⟩
  · exact ⟨_, rfl, fun v hv => by (cases hv), fun e he => by cases he; exact (Option.some.inj h).symm⟩
theorem zif_t {α : Type} {q : Prop} [Decidable q] {A B : Option α} {x : α} (h : (if q then A else B) = some x) (hq : q) : A = some x := by rw [if_pos hq] at h; exact h
theorem zif_f {α : Type} {q : Prop} [Decidable q] {A B : Option α} {x : α} (h : (if q then A else B) = some x) (hq : ¬ q) : B = some x := by rw [if_neg hq] at h; exact h
/-- the pool, behind a method -/
def zB (D : va_G) (cy : Nat → ClassId) (base : Nat) (K : Nat → Nat) (L : List Nat) (Z : zW) (t : State) : Prop := va_P D vwCl (zpool cy K L Z) t.heap ∧ va_D (zA base) (zpool cy K L Z) ∧ ∀ a, K a < 255 → a ∈ L
def zE (n : Nat) : String := if n = 1 then "java/lang/IndexOutOfBoundsException" else if n = 2 then "java/lang/IllegalArgumentException" else if n = 3 then "java/lang/IllegalStateException" else "java/lang/UnsupportedOperationException"
section ZC
variable {p : Program} {l : Launch} {e : Env} {R : Room} {s : State} {m : MethodId} {args : Array Value} {below : List Frame} {meth : Method} {cd : Code} {H : Heap} {locs : List Loc} {cells slots : Nat} {Q : State → Prop}
variable {cc : ByteArray} {pc : Nat} {ls : Array Slot} {rest st0 : List Value} {D : va_G} {cy : Nat → ClassId} {base : Nat} {K K' : Nat → Nat} {L L' : List Nat} {Z Z' Z0 : zW} {a : Array Value}
variable {zts : List (String × Nat × String)} {zns : List (String × Nat × MethodName × String)} {st : Nat → Nat}
theorem zC.out {t : State} (hC : zC D cy base K L Z s.heap H locs) (ht : t.heap = H) : zB D cy base K L Z t := by subst ht; exact ⟨hC.1, hC.2.1, hC.2.2.2⟩
theorem z_name {x y : Int32} (h : y = x) (k : W p l e R s m args below meth cd H locs cells slots Q (F0 m pc ls (.int y :: rest))) : W p l e R s m args below meth cd H locs cells slots Q (F0 m pc ls (.int x :: rest)) := h ▸ k
-- CALLS
def zts0 : List (String × Nat × String) := [(RX6, 40, "a row has 0 to 200 places"), (RX6, 59, "no such place"), (RX6, 62, "what is 0 to 2"), (RX6, 68, "a rate is 0 to 1000"), (RX6, 70, "a limit is 1 to 200"), (RX6, 78, "there are 20 trades"), (RX6, 96, "a kind is 0 to 4"), (RX6, 98, "a front is 1 to 20"), (RX6, 103, "there are 200 traders"), (RX6, 118, "only regulars and farmers have a pitch"), (RX6, 129, "only farmers have months"), (RX6, 131, "months are 0 to 4095"), (RX6, 154, "a month is 0 to 11"), (RX6, 184, "an hour is not below the one before, nor above 12"), (RX6, 250, "a sum is 1 to what is owed"), (RX6, 297, "what is 0 to 16"), (RX6, 330, "not at this time"), (RX6, 333, "no such row"), (RX6, 335, "no such trade"), (RX6, 337, "no such trader")]
def zns0 : List (String × Nat × MethodName × String) := [(RX6, 33, yX0_init, RX6), (RX0, 40, yX6_oneIf, RX6), (RX2, 9, yX1_init, RX6), (RX4, 11, yX1_init, RX6), (RX4, 20, yX5_init, RX6), (RX4, 27, yX2_init, RX6)]
/-- behind a call -/
theorem z_ci {rv : Int32} (hr : va_Run p l e R s m args below meth cd H locs cells slots 0 0 (F0 m pc ls st0) rest ((va_Qi (fun (rr : Int32) (_ : Unit) => rr = rv) (fun _ => zB D cy base K' L' Z') (zA base)) a) (zA base)) (hC : zC D cy base K L Z s.heap H locs)
    (kk : ∀ (H1 : Heap) (locs1 : List Loc), zC D cy base K' L' Z' s.heap H1 locs1 → W p l e R s m args below meth cd H1 locs1 cells slots Q (F0 m (pc + 3) ls (.int rv :: rest))) : W p l e R s m args below meth cd H locs cells slots Q (F0 m pc ls st0) :=
  va_calli hr hC.2.2.1 (fun q _ h => h) (fun q h => h) (fun rr u t H1 locs1 ht hvm hp hB hz hk hS => by subst hp; exact kk H1 locs1 ⟨by rw [← ht]; exact hB.1, hB.2.1, hS, hB.2.2⟩)
theorem z_iret {x rv : Int32} (hx : p.tables.exec = Jvm.exec) (hb : cd.code = cc) (hr : meth.sig.returnType = some .int) (hlocks : meth.locks = false) (hC : zC D cy base K L Z s.heap H locs) (hf : some x = some rv) (hdg : decode cc pc = .ok (.ireturn, 1)) : W p l e R s m args below meth cd H locs cells slots (MQ below (va_Qi (fun (rr : Int32) (_ : Unit) => rr = rv) (fun _ => zB D cy base K L Z) (zA base)) args s cells slots (zA base)) (F0 m pc ls [.int x]) :=
  W.iret (v := x) hx hb hr (fun t ht hW => ⟨⟨x, (), rfl, Option.some.inj hf, hC.out ht⟩, hC.2.2.1.F ht⟩) hC.2.2.1.2.2 hdg hlocks
theorem z_zret {x rv : Int32} (hx : p.tables.exec = Jvm.exec) (hb : cd.code = cc) (hr : meth.sig.returnType = some .boolean) (hlocks : meth.locks = false) (hC : zC D cy base K L Z s.heap H locs) (hz : x = 0 ∨ x = 1) (hf : some x = some rv) (hdg : decode cc pc = .ok (.ireturn, 1)) : W p l e R s m args below meth cd H locs cells slots (MQ below (va_Qi (fun (rr : Int32) (_ : Unit) => rr = rv) (fun _ => zB D cy base K L Z) (zA base)) args s cells slots (zA base)) (F0 m pc ls [.int x]) :=
  W.zret (v := x) hx hb hr (by rcases hz with rfl | rfl <;> rfl) (fun t ht hW => ⟨⟨x, (), rfl, Option.some.inj hf, hC.out ht⟩, hC.2.2.1.F ht⟩) hC.2.2.1.2.2 hdg hlocks
/-- behind a call -/
theorem z_cl {rv : Int64} (hr : va_Run p l e R s m args below meth cd H locs cells slots 0 0 (F0 m pc ls st0) rest ((va_Ql (fun (rr : Int64) (_ : Unit) => rr = rv) (fun _ => zB D cy base K' L' Z') (zA base)) a) (zA base)) (hC : zC D cy base K L Z s.heap H locs)
    (kk : ∀ (H1 : Heap) (locs1 : List Loc), zC D cy base K' L' Z' s.heap H1 locs1 → W p l e R s m args below meth cd H1 locs1 cells slots Q (F0 m (pc + 3) ls (.long rv :: rest))) : W p l e R s m args below meth cd H locs cells slots Q (F0 m pc ls st0) :=
  va_calll hr hC.2.2.1 (fun q _ h => h) (fun q h => h) (fun rr u t H1 locs1 ht hvm hp hB hz hk hS => by subst hp; exact kk H1 locs1 ⟨by rw [← ht]; exact hB.1, hB.2.1, hS, hB.2.2⟩)
theorem z_lret {x rv : Int64} (hx : p.tables.exec = Jvm.exec) (hb : cd.code = cc) (hr : meth.sig.returnType = some .long) (hlocks : meth.locks = false) (hC : zC D cy base K L Z s.heap H locs) (hf : some x = some rv) (hdg : decode cc pc = .ok (.lreturn, 1)) : W p l e R s m args below meth cd H locs cells slots (MQ below (va_Ql (fun (rr : Int64) (_ : Unit) => rr = rv) (fun _ => zB D cy base K L Z) (zA base)) args s cells slots (zA base)) (F0 m pc ls [.long x]) :=
  W.lret (v := x) hx hb hr (fun t ht hW => ⟨⟨x, (), rfl, Option.some.inj hf, hC.out ht⟩, hC.2.2.1.F ht⟩) hC.2.2.1.2.2 hdg hlocks
/-- behind a call -/
theorem z_cq {rv : Option Nat} (hr : va_Run p l e R s m args below meth cd H locs cells slots 0 0 (F0 m pc ls st0) rest ((va_Qq (fun (rr : Option Nat) (_ : Unit) => rr = rv) (fun _ => zB D cy base K' L' Z') (zA base)) a) (zA base)) (hC : zC D cy base K L Z s.heap H locs)
    (kk : ∀ (H1 : Heap) (locs1 : List Loc), zC D cy base K' L' Z' s.heap H1 locs1 → W p l e R s m args below meth cd H1 locs1 cells slots Q (F0 m (pc + 3) ls (va_rf rv :: rest))) : W p l e R s m args below meth cd H locs cells slots Q (F0 m pc ls st0) :=
  va_callq hr hC.2.2.1 (fun q _ h => h) (fun q h => h) (fun rr u t H1 locs1 ht hvm hp hB hz hk hS => by subst hp; exact kk H1 locs1 ⟨by rw [← ht]; exact hB.1, hB.2.1, hS, hB.2.2⟩)
theorem z_qret {x rv : Option Nat} (hx : p.tables.exec = Jvm.exec) (hb : cd.code = cc) {rt : String} (hr : meth.sig.returnType = some (.object rt)) (hlocks : meth.locks = false) (hC : zC D cy base K L Z s.heap H locs) (hf : some x = some rv) (hdg : decode cc pc = .ok (.areturn, 1)) : W p l e R s m args below meth cd H locs cells slots (MQ below (va_Qq (fun (rr : Option Nat) (_ : Unit) => rr = rv) (fun _ => zB D cy base K L Z) (zA base)) args s cells slots (zA base)) (F0 m pc ls [va_rf x]) :=
  W.aret (v := va_rf x) hx hb hr (Or.inl ⟨_, rfl⟩) (by cases x; exact Or.inl rfl; exact Or.inr ⟨_, rfl⟩) (fun t ht hW => ⟨⟨x, (), rfl, Option.some.inj hf, hC.out ht⟩, hC.2.2.1.F ht⟩) hC.2.2.1.2.2 hdg hlocks
/-- behind a call -/
theorem z_cv (hr : va_Run p l e R s m args below meth cd H locs cells slots 0 0 (F0 m pc ls st0) rest ((va_Qv (fun (_ : Unit) => True) (fun _ => zB D cy base K' L' Z') (zA base)) a) (zA base)) (hC : zC D cy base K L Z s.heap H locs)
    (kk : ∀ (H1 : Heap) (locs1 : List Loc), zC D cy base K' L' Z' s.heap H1 locs1 → W p l e R s m args below meth cd H1 locs1 cells slots Q (F0 m (pc + 3) ls rest)) : W p l e R s m args below meth cd H locs cells slots Q (F0 m pc ls st0) :=
  va_callv hr hC.2.2.1 (fun q _ h => h) (fun q h => h) (fun u t H1 locs1 ht hvm hp hB hz hk hS => kk H1 locs1 ⟨by rw [← ht]; exact hB.1, hB.2.1, hS, hB.2.2⟩)
theorem z_vret (hx : p.tables.exec = Jvm.exec) (hb : cd.code = cc) (hr : meth.sig.returnType = none) (hlocks : meth.locks = false) (hC : zC D cy base K L Z s.heap H locs) (hdg : decode cc pc = .ok (.return_, 1)) : W p l e R s m args below meth cd H locs cells slots (MQ below (va_Qv (fun (_ : Unit) => True) (fun _ => zB D cy base K L Z) (zA base)) args s cells slots (zA base)) (F0 m pc ls []) :=
  W.vret hx hb hr (fun t ht hW => ⟨⟨(), rfl, trivial, hC.out ht⟩, hC.2.2.1.F ht⟩) hC.2.2.1.2.2 hdg hlocks
theorem zGW.at {U : State} (h : zGW zts zns D cy base st K' L' Z0 s) (hC : zC D cy base K L Z s.heap H locs) (hU : U.heap = H) (hW : s.WarmedH U.vm) : zGW zts zns D cy base st K L Z U := h.exit hC hU hW
theorem zC.recv {b ci : Nat} {q : vw_C} {fs : List Value} {H0 : Heap} (hK : va_K D vwCl (ztys cy) s) (hC : zC D cy base K L Z H0 H locs) (hk : K b < 255) (hf : zcell cy Z (K b) b = .inr (ci, fs)) (hc : vwCl[ci]? = some q) : ∃ cell : Cell, H[b]? = some cell ∧ cell.vm.isStatics = false ∧ s.vm.findClass q.1 = some cell.cls := by
  obtain ⟨q0, h0⟩ := hC.find hk
  rw [hf] at h0
  exact va_recv hK hC.1 hc h0
theorem z_rV {y : MethodName} {bytes : ByteArray} {maxL nL mc ms n index : Nat} {ret : Option FieldType} {ws : List Cond} {rm : Room} {Qc : Array Value → State → Outcome → State → Prop} {free : Addr → Prop} {Ts : List Cond} {own : String} {b : Nat} {As : List Value} {C : String} (S : CallFix p m cd cc nL s args Ts own) (hM : Met l y ws rm (va_Pc (.ref b :: As) (zGW zts zns D cy base st K L Z)) Qc mc ms free) (cw : CallW R s args own C index y bytes maxL ret ws rm mc ms n) (hG : zGW zts zns D cy base st K' L' Z0 s) (hC : zC D cy base K L Z s.heap H locs) (hrc : ∃ cell : Cell, H[b]? = some cell ∧ cell.vm.isStatics = false ∧ s.vm.findClass C = some cell.cls) (hn : As.length = n) (hsize : ls.size = nL) (hst : st0 = As.reverse ++ .ref b :: rest) (hW : 2 * (F0 m pc ls st0).monitorRoom + (rest.map fun v => v.category).sum ≤ 8) (hdg : decode cc pc = .ok (.invokevirtual index, 3)) (hf : cells + mc ≤ R.cells ∧ slots + ms ≤ R.slots) :
    va_Run p l e R s m args below meth cd H locs cells slots mc ms (F0 m pc ls st0) rest (Qc (Value.ref b :: As).toArray) free :=
  va_runV S hM cw ⟨zGW.blind, hrc, fun U hU hW => ⟨rfl, hG.at hC hU hW⟩⟩ rfl hn hsize hst hW hdg hf
theorem z_rS {y : MethodName} {bytes : ByteArray} {maxL nL mc ms n index : Nat} {ret : Option FieldType} {ws : List Cond} {rm : Room} {Qc : Array Value → State → Outcome → State → Prop} {free : Addr → Prop} {Ts : List Cond} {own : String} {b : Nat} {As : List Value} (S : CallFix p m cd cc nL s args Ts own) (hM : Met l y ws rm (va_Pc As (zGW zts zns D cy base st K L Z)) Qc mc ms free) (cw : CallB R s args own index y bytes maxL ret ws rm mc ms n ∧ (Cond.static y).before args s = true) (hG : zGW zts zns D cy base st K' L' Z0 s) (hC : zC D cy base K L Z s.heap H locs) (hn : As.length = n) (hsize : ls.size = nL) (hst : st0 = As.reverse ++ rest) (hW : 2 * (F0 m pc ls st0).monitorRoom + (rest.map fun v => v.category).sum ≤ 8) (hdg : decode cc pc = .ok (.invokestatic index, 3)) (hf : cells + mc ≤ R.cells ∧ slots + ms ≤ R.slots) :
    va_Run p l e R s m args below meth cd H locs cells slots mc ms (F0 m pc ls st0) rest (Qc As.toArray) free :=
  va_runS S hM cw ⟨zGW.blind, fun U hU hW => ⟨rfl, hG.at hC hU hW⟩⟩ rfl hn hsize hst hW hdg hf
theorem z_rSN {y : MethodName} {bytes : ByteArray} {maxL nL mc ms n index : Nat} {ret : Option FieldType} {ws : List Cond} {rm : Room} {Qc : Array Value → State → Outcome → State → Prop} {free : Addr → Prop} {Ts : List Cond} {own : String} {b : Nat} {As : List Value} {host : String} (S : CallFix p m cd cc nL s args Ts own) (hM : Met l y ws rm (va_Pc As (zGW zts zns D cy base st K L Z)) Qc mc ms free) (cw : va_CN R s args own index y host bytes maxL ret ws rm mc ms n ∧ (Cond.static y).before args s = true ∧ True) (hG : zGW zts zns D cy base st K' L' Z0 s) (hC : zC D cy base K L Z s.heap H locs) (hn : As.length = n) (hsize : ls.size = nL) (hst : st0 = As.reverse ++ rest) (hW : 2 * (F0 m pc ls st0).monitorRoom + (rest.map fun v => v.category).sum ≤ 8) (hdg : decode cc pc = .ok (.invokestatic index, 3)) (hf : cells + mc ≤ R.cells ∧ slots + ms ≤ R.slots) :
    va_Run p l e R s m args below meth cd H locs cells slots mc ms (F0 m pc ls st0) rest (Qc As.toArray) free :=
  va_runSN S hM cw ⟨zGW.blind, fun U hU hW => ⟨rfl, hG.at hC hU hW⟩⟩ rfl hn hsize hst hW hdg hf
theorem z_aload_n {k : Fin 4} {i : Nat} {x : Option Nat} (hexec : p.tables.exec = Jvm.exec) (hb : cd.code = cc) (hdg : decode cc pc = .ok (.aload_n k, 1)) (hi : (k : Nat) = i) (hl : ls[i]? = some (.val (va_rf x))) (kk : W p l e R s m args below meth cd H locs cells slots Q (F0 m (pc + 1) ls (va_rf x :: rest))) : W p l e R s m args below meth cd H locs cells slots Q (F0 m pc ls rest) := by
  cases x with
  | none => exact lv_aload_nN hexec hb hdg hi hl kk
  | some a => exact lv_aload_n hexec hb hdg hi hl kk
theorem z_aload {i : Nat} {x : Option Nat} (hexec : p.tables.exec = Jvm.exec) (hb : cd.code = cc) (hdg : decode cc pc = .ok (.aload i, 2)) (hl : ls[i]? = some (.val (va_rf x))) (kk : W p l e R s m args below meth cd H locs cells slots Q (F0 m (pc + 2) ls (va_rf x :: rest))) : W p l e R s m args below meth cd H locs cells slots Q (F0 m pc ls rest) := by
  cases x with
  | none => exact lv_aloadN hexec hb hdg hl kk
  | some a => exact lv_aload hexec hb hdg hl kk
theorem z_astore_n {k : Fin 4} {i nL : Nat} {x : Option Nat} {lv lv' : List (Nat × Value)} (hexec : p.tables.exec = Jvm.exec) (hb : cd.code = cc) (hdg : decode cc pc = .ok (.astore_n k, 1)) (hi : (k : Nat) = i) (h : lv_has ls nL lv) (hn : i < nL) (hl : (i, va_rf x) :: lv.filter (fun q => !(q.1 == i) && !(q.1 + 1 == i && q.2.category == 2)) = lv') (kk : ∀ ls' : Array Slot, lv_has ls' nL lv' → W p l e R s m args below meth cd H locs cells slots Q (F0 m (pc + 1) ls' rest)) : W p l e R s m args below meth cd H locs cells slots Q (F0 m pc ls (va_rf x :: rest)) := by
  cases x with
  | none => exact lv_astore_nN hexec hb hdg hi h hn hl kk
  | some a => exact lv_astore_n hexec hb hdg hi h hn hl kk
theorem z_astore {i nL : Nat} {x : Option Nat} {lv lv' : List (Nat × Value)} (hexec : p.tables.exec = Jvm.exec) (hb : cd.code = cc) (hdg : decode cc pc = .ok (.astore i, 2)) (h : lv_has ls nL lv) (hn : i < nL) (hl : (i, va_rf x) :: lv.filter (fun q => !(q.1 == i) && !(q.1 + 1 == i && q.2.category == 2)) = lv') (kk : ∀ ls' : Array Slot, lv_has ls' nL lv' → W p l e R s m args below meth cd H locs cells slots Q (F0 m (pc + 2) ls' rest)) : W p l e R s m args below meth cd H locs cells slots Q (F0 m pc ls (va_rf x :: rest)) := by
  cases x with
  | none => exact lv_astoreN hexec hb hdg h hn hl kk
  | some a => exact lv_astore hexec hb hdg h hn hl kk
theorem z_ref {x : Option Nat} {y : Nat} (h : x = some y) (kk : W p l e R s m args below meth cd H locs cells slots Q (F0 m pc ls (.ref y :: rest))) : W p l e R s m args below meth cd H locs cells slots Q (F0 m pc ls (va_rf x :: rest)) := by subst h; exact kk
theorem z_nameo {x y : Option Nat} (h : y = x) (k : W p l e R s m args below meth cd H locs cells slots Q (F0 m pc ls (va_rf y :: rest))) : W p l e R s m args below meth cd H locs cells slots Q (F0 m pc ls (va_rf x :: rest)) := h ▸ k
theorem z_namel {x y : Int64} (h : y = x) (k : W p l e R s m args below meth cd H locs cells slots Q (F0 m pc ls (.long y :: rest))) : W p l e R s m args below meth cd H locs cells slots Q (F0 m pc ls (.long x :: rest)) := h ▸ k
theorem z_acmp_eq {x y : Nat} {off : Int} {tgt : Nat} (hexec : p.tables.exec = Jvm.exec) (hb : cd.code = cc) (hdg : decode cc pc = .ok (.if_acmp .eq off, 3)) (ht : (pc : Int) + off = (tgt : Int)) (kt : x = y → W p l e R s m args below meth cd H locs cells slots Q (F0 m tgt ls rest)) (kf : ¬ x = y → W p l e R s m args below meth cd H locs cells slots Q (F0 m (pc + 3) ls rest)) : W p l e R s m args below meth cd H locs cells slots Q (F0 m pc ls (.ref y :: .ref x :: rest)) :=
  lv_acmp_eq (rx := some x) (ry := some y) hexec hb hdg ht (fun h => kt (Option.some.inj h)) (fun h => kf (fun h2 => h (congrArg some h2)))
theorem z_acmp_ne {x y : Nat} {off : Int} {tgt : Nat} (hexec : p.tables.exec = Jvm.exec) (hb : cd.code = cc) (hdg : decode cc pc = .ok (.if_acmp .ne off, 3)) (ht : (pc : Int) + off = (tgt : Int)) (kt : ¬ x = y → W p l e R s m args below meth cd H locs cells slots Q (F0 m tgt ls rest)) (kf : x = y → W p l e R s m args below meth cd H locs cells slots Q (F0 m (pc + 3) ls rest)) : W p l e R s m args below meth cd H locs cells slots Q (F0 m pc ls (.ref y :: .ref x :: rest)) :=
  lv_acmp_ne (rx := some x) (ry := some y) hexec hb hdg ht (fun h => kt (fun h2 => h (congrArg some h2))) (fun h => kf (Option.some.inj h))
theorem z_stk {st1 : List Value} (h : st0 = st1) (kk : W p l e R s m args below meth cd H locs cells slots Q (F0 m pc ls st1)) : W p l e R s m args below meth cd H locs cells slots Q (F0 m pc ls st0) := h ▸ kk
theorem z_ne {x v : Int32} {k : Int} (hk : v.toInt = k) (h : ¬ x = v) : ¬ x.toInt = k := fun e => h (Int32.toInt_inj.mp (e.trans hk.symm))
theorem z_iretW {c2 cf r : zS} {o : Int64} {x rv : Int32} (hx : p.tables.exec = Jvm.exec) (hb : cd.code = cc) (hr : meth.sig.returnType = some .int) (hlocks : meth.locks = false) (hC : zC D cy base K L (c2, r, o) s.heap H locs) (hf : some (x, c2) = some (rv, cf)) (hdg : decode cc pc = .ok (.ireturn, 1)) : W p l e R s m args below meth cd H locs cells slots (MQ below (va_Qi (fun (rr : Int32) (_ : Unit) => rr = rv) (fun _ => zB D cy base K L (cf, r, o)) (zA base)) args s cells slots (zA base)) (F0 m pc ls [.int x]) := by
  cases hf; exact z_iret hx hb hr hlocks hC rfl hdg
theorem z_zretW {c2 cf r : zS} {o : Int64} {x rv : Int32} (hx : p.tables.exec = Jvm.exec) (hb : cd.code = cc) (hr : meth.sig.returnType = some .boolean) (hlocks : meth.locks = false) (hC : zC D cy base K L (c2, r, o) s.heap H locs) (hz : x = 0 ∨ x = 1) (hf : some (x, c2) = some (rv, cf)) (hdg : decode cc pc = .ok (.ireturn, 1)) : W p l e R s m args below meth cd H locs cells slots (MQ below (va_Qi (fun (rr : Int32) (_ : Unit) => rr = rv) (fun _ => zB D cy base K L (cf, r, o)) (zA base)) args s cells slots (zA base)) (F0 m pc ls [.int x]) := by
  cases hf; exact z_zret hx hb hr hlocks hC hz rfl hdg
theorem z_iretM {c r2 rf : zS} {o : Int64} {x rv : Int32} (hx : p.tables.exec = Jvm.exec) (hb : cd.code = cc) (hr : meth.sig.returnType = some .int) (hlocks : meth.locks = false) (hC : zC D cy base K L (c, r2, o) s.heap H locs) (hf : some (x, r2) = some (rv, rf)) (hdg : decode cc pc = .ok (.ireturn, 1)) : W p l e R s m args below meth cd H locs cells slots (MQ below (va_Qi (fun (rr : Int32) (_ : Unit) => rr = rv) (fun _ => zB D cy base K L (c, rf, o)) (zA base)) args s cells slots (zA base)) (F0 m pc ls [.int x]) := by
  cases hf; exact z_iret hx hb hr hlocks hC rfl hdg
theorem z_zretM {c r2 rf : zS} {o : Int64} {x rv : Int32} (hx : p.tables.exec = Jvm.exec) (hb : cd.code = cc) (hr : meth.sig.returnType = some .boolean) (hlocks : meth.locks = false) (hC : zC D cy base K L (c, r2, o) s.heap H locs) (hz : x = 0 ∨ x = 1) (hf : some (x, r2) = some (rv, rf)) (hdg : decode cc pc = .ok (.ireturn, 1)) : W p l e R s m args below meth cd H locs cells slots (MQ below (va_Qi (fun (rr : Int32) (_ : Unit) => rr = rv) (fun _ => zB D cy base K L (c, rf, o)) (zA base)) args s cells slots (zA base)) (F0 m pc ls [.int x]) := by
  cases hf; exact z_zret hx hb hr hlocks hC hz rfl hdg
theorem z_lretW {c2 cf r : zS} {o : Int64} {x rv : Int64} (hx : p.tables.exec = Jvm.exec) (hb : cd.code = cc) (hr : meth.sig.returnType = some .long) (hlocks : meth.locks = false) (hC : zC D cy base K L (c2, r, o) s.heap H locs) (hf : some (x, c2) = some (rv, cf)) (hdg : decode cc pc = .ok (.lreturn, 1)) : W p l e R s m args below meth cd H locs cells slots (MQ below (va_Ql (fun (rr : Int64) (_ : Unit) => rr = rv) (fun _ => zB D cy base K L (cf, r, o)) (zA base)) args s cells slots (zA base)) (F0 m pc ls [.long x]) := by
  cases hf; exact z_lret hx hb hr hlocks hC rfl hdg
theorem z_lretM {c r2 rf : zS} {o : Int64} {x rv : Int64} (hx : p.tables.exec = Jvm.exec) (hb : cd.code = cc) (hr : meth.sig.returnType = some .long) (hlocks : meth.locks = false) (hC : zC D cy base K L (c, r2, o) s.heap H locs) (hf : some (x, r2) = some (rv, rf)) (hdg : decode cc pc = .ok (.lreturn, 1)) : W p l e R s m args below meth cd H locs cells slots (MQ below (va_Ql (fun (rr : Int64) (_ : Unit) => rr = rv) (fun _ => zB D cy base K L (c, rf, o)) (zA base)) args s cells slots (zA base)) (F0 m pc ls [.long x]) := by
  cases hf; exact z_lret hx hb hr hlocks hC rfl hdg
theorem z_qretW {c2 cf r : zS} {o : Int64} {x rv : Option Nat} (hx : p.tables.exec = Jvm.exec) (hb : cd.code = cc) {rt : String} (hr : meth.sig.returnType = some (.object rt)) (hlocks : meth.locks = false) (hC : zC D cy base K L (c2, r, o) s.heap H locs) (hf : some (x, c2) = some (rv, cf)) (hdg : decode cc pc = .ok (.areturn, 1)) : W p l e R s m args below meth cd H locs cells slots (MQ below (va_Qq (fun (rr : Option Nat) (_ : Unit) => rr = rv) (fun _ => zB D cy base K L (cf, r, o)) (zA base)) args s cells slots (zA base)) (F0 m pc ls [va_rf x]) := by
  cases hf; exact z_qret hx hb hr hlocks hC rfl hdg
theorem z_qretM {c r2 rf : zS} {o : Int64} {x rv : Option Nat} (hx : p.tables.exec = Jvm.exec) (hb : cd.code = cc) {rt : String} (hr : meth.sig.returnType = some (.object rt)) (hlocks : meth.locks = false) (hC : zC D cy base K L (c, r2, o) s.heap H locs) (hf : some (x, r2) = some (rv, rf)) (hdg : decode cc pc = .ok (.areturn, 1)) : W p l e R s m args below meth cd H locs cells slots (MQ below (va_Qq (fun (rr : Option Nat) (_ : Unit) => rr = rv) (fun _ => zB D cy base K L (c, rf, o)) (zA base)) args s cells slots (zA base)) (F0 m pc ls [va_rf x]) := by
  cases hf; exact z_qret hx hb hr hlocks hC rfl hdg
theorem z_vretW {c2 cf r : zS} {o : Int64} (hx : p.tables.exec = Jvm.exec) (hb : cd.code = cc) (hr : meth.sig.returnType = none) (hlocks : meth.locks = false) (hC : zC D cy base K L (c2, r, o) s.heap H locs) (hf : some c2 = some cf) (hdg : decode cc pc = .ok (.return_, 1)) : W p l e R s m args below meth cd H locs cells slots (MQ below (va_Qv (fun (_ : Unit) => True) (fun _ => zB D cy base K L (cf, r, o)) (zA base)) args s cells slots (zA base)) (F0 m pc ls []) := by
  cases hf; exact z_vret hx hb hr hlocks hC hdg
theorem z_vretM {c r2 rf : zS} {o : Int64} (hx : p.tables.exec = Jvm.exec) (hb : cd.code = cc) (hr : meth.sig.returnType = none) (hlocks : meth.locks = false) (hC : zC D cy base K L (c, r2, o) s.heap H locs) (hf : some r2 = some rf) (hdg : decode cc pc = .ok (.return_, 1)) : W p l e R s m args below meth cd H locs cells slots (MQ below (va_Qv (fun (_ : Unit) => True) (fun _ => zB D cy base K L (c, rf, o)) (zA base)) args s cells slots (zA base)) (F0 m pc ls []) := by
  cases hf; exact z_vret hx hb hr hlocks hC hdg
end ZC
