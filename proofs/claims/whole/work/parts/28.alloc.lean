/-- the state with all that is said of the address q taken back -/
def znw (S : zS) (q : Nat) : zS := (fun f a j => if a = q then 0 else S.1 f a j, fun f a j => if a = q then 0 else S.2.1 f a j, fun f a j => if a = q then none else S.2.2 f a j)
theorem zi_znw (S : zS) (q f a j : Nat) : zi (znw S q) f a j = if a = q then 0 else zi S f a j := rfl
theorem zl_znw (S : zS) (q f a j : Nat) : zl (znw S q) f a j = if a = q then 0 else zl S f a j := rfl
theorem zr_znw (S : zS) (q f a j : Nat) : zr (znw S q) f a j = if a = q then none else zr S f a j := rfl
theorem zi_znq (S : zS) (q f : Nat) : zi (znw S q) f q = fun _ => 0 := by funext j; rw [zi_znw, if_pos rfl]
theorem zl_znq (S : zS) (q f : Nat) : zl (znw S q) f q = fun _ => 0 := by funext j; rw [zl_znw, if_pos rfl]
theorem zr_znq (S : zS) (q f : Nat) : zr (znw S q) f q = fun _ => none := by funext j; rw [zr_znw, if_pos rfl]
theorem zi_znb {S : zS} {q b : Nat} (h : b ≠ q) (f : Nat) : zi S f b = zi (znw S q) f b := by funext j; rw [zi_znw, if_neg h]
theorem zl_znb {S : zS} {q b : Nat} (h : b ≠ q) (f : Nat) : zl S f b = zl (znw S q) f b := by funext j; rw [zl_znw, if_neg h]
theorem zr_znb {S : zS} {q b : Nat} (h : b ≠ q) (f : Nat) : zr S f b = zr (znw S q) f b := by funext j; rw [zr_znw, if_neg h]
section ZA
variable {p : Program} {l : Launch} {e : Env} {R : Room} {s : State} {m : MethodId} {args : Array Value} {below : List Frame} {meth : Method} {cd : Code} {H : Heap} {locs : List Loc} {cells slots : Nat} {Q : State → Prop}
variable {cc : ByteArray} {pc : Nat} {ls : Array Slot} {rest st0 : List Value} {D : va_G} {a : Nat} {H0 : Heap} {cy : Nat → ClassId} {base : Nat} {K K' : Nat → Nat} {L L' : List Nat} {Z Z' Z0 : zW} {c r : zS} {o : Int64} {index : Nat} {own : String} {Ts : List Cond} {st : Nat → Nat} {mc ms : Nat}
variable {zts : List (String × Nat × String)} {zns : List (String × Nat × MethodName × String)}
theorem zOff.nw {q : Nat} : zOff cy (c, r, o) (znw c q, r, o) q := fun b h k => zcell_congr cy _ _ k b (fun f => zi_znb h f) (fun f => zl_znb h f) (fun f => zr_znb h f) (fun _ => rfl) (fun _ => rfl) (fun _ => rfl) rfl
theorem zOff.mnw {q : Nat} : zOff cy (c, r, o) (c, znw r q, o) q := fun b h k => zcell_congr cy _ _ k b (fun _ => rfl) (fun _ => rfl) (fun _ => rfl) (fun f => zi_znb h f) (fun f => zl_znb h f) (fun f => zr_znb h f) rfl
theorem zfresh {q : Nat} (hL : ∀ a, K a < 255 → a ∈ L) (hq : q ∉ L) : 255 ≤ K q := Nat.le_of_not_lt (fun h => hq (hL q h))
theorem zup_old {q a n k : Nat} (hq : 255 ≤ K q) (h : K a = n) (hn : n < 255) : va_up K q k a = n := by
  rw [va_up_ne _ _ (fun e => by rw [e] at h; omega)]; exact h
theorem zpool_push {A : Nat → Prop} {q lab : Nat} {ee : va_E} (hD : va_D A (zpool cy K L Z ++ [(q, ee)])) (ho : zOff cy Z Z' q) (hn : ee = zcell cy Z' lab q) : q ∉ L ∧ zpool cy K L Z ++ [(q, ee)] = zpool cy (va_up K q lab) (L ++ [q]) Z' := by
  have hq : q ∉ L := va_pl_fresh2 (A := A) (X := []) (L := L) (f := fun a => zcell cy Z (K a) a) (e := ee) (by simpa [zpool] using hD)
  refine ⟨hq, (va_pl_push hq).trans (va_pl_congr (fun b => ?_))⟩
  by_cases hb : b = q
  · subst hb; rw [va_up_self, va_up_self, hn]
  · rw [va_up_ne _ _ hb, va_up_ne _ _ hb]; exact ho b hb (K b)
theorem zC.grow {q lab : Nat} (hL : ∀ a, K a < 255 → a ∈ L) : ∀ a, va_up K q lab a < 255 → a ∈ L ++ [q] := by
  intro a ha
  by_cases h : a = q
  · subst h; exact List.mem_append_right _ (List.mem_singleton.mpr rfl)
  · rw [va_up_ne _ _ h] at ha; exact List.mem_append_left _ (hL a ha)
/-- a new object -/
theorem z_new {Zn : Nat → zW} (hexec : p.tables.exec = Jvm.exec) (hb : cd.code = cc) {C : String} {T : u_T} {N ci : Nat} (hts : ∀ w ∈ Ts, w.before args s = true) (hin : ∀ w ∈ u_ws C T N, w ∈ Ts) (ty : Nat → FieldType) (hty : ∀ k, k < N → parseFieldDescriptor (T k).2.2.1 = some (ty k)) (hown : s.vm.findClass own = some m.cls) (hcl : (Cond.classLink own index C).before args s = true) (hinst : (Cond.instantiable C N).before args s = true) (hini : (Cond.initialized C).before args s = true)
    (hK : va_K D vwCl (ztys cy) s) (hbase : base ≤ H0.size) (hC : zC D cy base K L Z H0 H locs) (hc : vwCl[ci]? = some (C, T, N)) {fs : List Value} (hfs : ∀ j, j < N → defaultValue (ty j) = vp_V fs j) (hdef : ∀ q, zcell cy (Zn q) ci q = .inr (ci, fs)) (hoff : ∀ q, zOff cy Z (Zn q) q) (hcells : cells + 1 ≤ R.cells) (hslots : slots + N ≤ R.slots) (hdg : decode cc pc = .ok (.new index, 3))
    (kk : ∀ (q : Nat) (H1 : Heap), 255 ≤ K q → zC D cy base (va_up K q ci) (L ++ [q]) (Zn q) H0 H1 locs → W p l e R s m args below meth cd H1 locs (cells + 1) (slots + N) Q (F0 m (pc + 3) ls (.ref q :: rest))) : W p l e R s m args below meth cd H locs cells slots Q (F0 m pc ls rest) := by
  refine va_new (ci := ci) (fs := fs) (C := C) (T := T) (N := N) hexec hb hts hin ty hty hown hcl hinst hini hK hC.1 hC.2.1 hC.2.2.1 (fun q h => Nat.le_trans hbase h) hc hfs hcells hslots hdg (fun q H1 hP hD hS => ?_)
  obtain ⟨hq, he⟩ := zpool_push (Z' := Zn q) (lab := ci) hD (hoff q) (hdef q).symm
  rw [he] at hP hD
  exact kk q H1 (zfresh hC.2.2.2 hq) ⟨hP, hD, hS, zC.grow hC.2.2.2⟩
theorem z_newai {Zn : Nat → zW} {lab N' : Nat} {n : Int32} (hexec : p.tables.exec = Jvm.exec) (hb : cd.code = cc) (harr : (Cond.arrayClass .int).before args s = true) (hK : va_K D vwCl (ztys cy) s) (hbase : base ≤ H0.size) (hC : zC D cy base K L Z H0 H locs) (hn : ¬ n < 0) (hN : n.toNatClampNeg = N') (hbytes : N' * componentBytes .int ≤ 536870912) (hcells : cells + 1 ≤ R.cells) (hslots : slots + N' ≤ R.slots) (hdef : ∀ q, zcell cy (Zn q) lab q = .inl (cy 0, N', .inl (fun _ => 0))) (hoff : ∀ q, zOff cy Z (Zn q) q) (hdg : decode cc pc = .ok (.newarray .int, 2))
    (kk : ∀ (q : Nat) (H1 : Heap), 255 ≤ K q → zC D cy base (va_up K q lab) (L ++ [q]) (Zn q) H0 H1 locs → W p l e R s m args below meth cd H1 locs (cells + 1) (slots + N') Q (F0 m (pc + 2) ls (.ref q :: rest))) : W p l e R s m args below meth cd H locs cells slots Q (F0 m pc ls (.int n :: rest)) := by
  refine va_newa (atype := .int) (ty := .int) (a0 := (N', .inl (fun _ => 0))) hexec hb harr rfl hK hC.1 hC.2.1 hC.2.2.1 (fun q h => Nat.le_trans hbase h) (fun cA => rfl) hn hN hbytes hcells hslots hdg (fun q cA H1 hK1 hP hD hS => ?_)
  have h1 : s.vm.findClass ("[" ++ (FieldType.int).toString) = some cA := (hK1.2 7 (cA, .int) rfl).2
  have h2 : s.vm.findClass ("[" ++ (FieldType.int).toString) = some (cy 0) := (hK.2 0 (cy 0, .int) rfl).2
  have h3 : cA = cy 0 := Option.some.inj (h1.symm.trans h2)
  subst h3
  obtain ⟨hq, he⟩ := zpool_push (Z' := Zn q) (lab := lab) hD (hoff q) (hdef q).symm
  rw [he] at hP hD
  exact kk q H1 (zfresh hC.2.2.2 hq) ⟨hP, hD, hS, zC.grow hC.2.2.2⟩
theorem z_newab {Zn : Nat → zW} {lab N' : Nat} {n : Int32} (hexec : p.tables.exec = Jvm.exec) (hb : cd.code = cc) (harr : (Cond.arrayClass .byte).before args s = true) (hK : va_K D vwCl (ztys cy) s) (hbase : base ≤ H0.size) (hC : zC D cy base K L Z H0 H locs) (hn : ¬ n < 0) (hN : n.toNatClampNeg = N') (hbytes : N' * componentBytes .byte ≤ 536870912) (hcells : cells + 1 ≤ R.cells) (hslots : slots + N' ≤ R.slots) (hdef : ∀ q, zcell cy (Zn q) lab q = .inl (cy 1, N', .inl (fun _ => 0))) (hoff : ∀ q, zOff cy Z (Zn q) q) (hdg : decode cc pc = .ok (.newarray .byte, 2))
    (kk : ∀ (q : Nat) (H1 : Heap), 255 ≤ K q → zC D cy base (va_up K q lab) (L ++ [q]) (Zn q) H0 H1 locs → W p l e R s m args below meth cd H1 locs (cells + 1) (slots + N') Q (F0 m (pc + 2) ls (.ref q :: rest))) : W p l e R s m args below meth cd H locs cells slots Q (F0 m pc ls (.int n :: rest)) := by
  refine va_newa (atype := .byte) (ty := .byte) (a0 := (N', .inl (fun _ => 0))) hexec hb harr rfl hK hC.1 hC.2.1 hC.2.2.1 (fun q h => Nat.le_trans hbase h) (fun cA => rfl) hn hN hbytes hcells hslots hdg (fun q cA H1 hK1 hP hD hS => ?_)
  have h1 : s.vm.findClass ("[" ++ (FieldType.byte).toString) = some cA := (hK1.2 7 (cA, .byte) rfl).2
  have h2 : s.vm.findClass ("[" ++ (FieldType.byte).toString) = some (cy 1) := (hK.2 1 (cy 1, .byte) rfl).2
  have h3 : cA = cy 1 := Option.some.inj (h1.symm.trans h2)
  subst h3
  obtain ⟨hq, he⟩ := zpool_push (Z' := Zn q) (lab := lab) hD (hoff q) (hdef q).symm
  rw [he] at hP hD
  exact kk q H1 (zfresh hC.2.2.2 hq) ⟨hP, hD, hS, zC.grow hC.2.2.2⟩
theorem z_newaz {Zn : Nat → zW} {lab N' : Nat} {n : Int32} (hexec : p.tables.exec = Jvm.exec) (hb : cd.code = cc) (harr : (Cond.arrayClass .boolean).before args s = true) (hK : va_K D vwCl (ztys cy) s) (hbase : base ≤ H0.size) (hC : zC D cy base K L Z H0 H locs) (hn : ¬ n < 0) (hN : n.toNatClampNeg = N') (hbytes : N' * componentBytes .boolean ≤ 536870912) (hcells : cells + 1 ≤ R.cells) (hslots : slots + N' ≤ R.slots) (hdef : ∀ q, zcell cy (Zn q) lab q = .inl (cy 2, N', .inl (fun _ => 0))) (hoff : ∀ q, zOff cy Z (Zn q) q) (hdg : decode cc pc = .ok (.newarray .boolean, 2))
    (kk : ∀ (q : Nat) (H1 : Heap), 255 ≤ K q → zC D cy base (va_up K q lab) (L ++ [q]) (Zn q) H0 H1 locs → W p l e R s m args below meth cd H1 locs (cells + 1) (slots + N') Q (F0 m (pc + 2) ls (.ref q :: rest))) : W p l e R s m args below meth cd H locs cells slots Q (F0 m pc ls (.int n :: rest)) := by
  refine va_newa (atype := .boolean) (ty := .boolean) (a0 := (N', .inl (fun _ => 0))) hexec hb harr rfl hK hC.1 hC.2.1 hC.2.2.1 (fun q h => Nat.le_trans hbase h) (fun cA => rfl) hn hN hbytes hcells hslots hdg (fun q cA H1 hK1 hP hD hS => ?_)
  have h1 : s.vm.findClass ("[" ++ (FieldType.boolean).toString) = some cA := (hK1.2 7 (cA, .boolean) rfl).2
  have h2 : s.vm.findClass ("[" ++ (FieldType.boolean).toString) = some (cy 2) := (hK.2 2 (cy 2, .boolean) rfl).2
  have h3 : cA = cy 2 := Option.some.inj (h1.symm.trans h2)
  subst h3
  obtain ⟨hq, he⟩ := zpool_push (Z' := Zn q) (lab := lab) hD (hoff q) (hdef q).symm
  rw [he] at hP hD
  exact kk q H1 (zfresh hC.2.2.2 hq) ⟨hP, hD, hS, zC.grow hC.2.2.2⟩
theorem z_newal {Zn : Nat → zW} {lab N' : Nat} {n : Int32} (hexec : p.tables.exec = Jvm.exec) (hb : cd.code = cc) (harr : (Cond.arrayClass .long).before args s = true) (hK : va_K D vwCl (ztys cy) s) (hbase : base ≤ H0.size) (hC : zC D cy base K L Z H0 H locs) (hn : ¬ n < 0) (hN : n.toNatClampNeg = N') (hbytes : N' * componentBytes .long ≤ 536870912) (hcells : cells + 1 ≤ R.cells) (hslots : slots + N' ≤ R.slots) (hdef : ∀ q, zcell cy (Zn q) lab q = .inl (cy 3, N', .inr (.inl (fun _ => 0)))) (hoff : ∀ q, zOff cy Z (Zn q) q) (hdg : decode cc pc = .ok (.newarray .long, 2))
    (kk : ∀ (q : Nat) (H1 : Heap), 255 ≤ K q → zC D cy base (va_up K q lab) (L ++ [q]) (Zn q) H0 H1 locs → W p l e R s m args below meth cd H1 locs (cells + 1) (slots + N') Q (F0 m (pc + 2) ls (.ref q :: rest))) : W p l e R s m args below meth cd H locs cells slots Q (F0 m pc ls (.int n :: rest)) := by
  refine va_newa (atype := .long) (ty := .long) (a0 := (N', .inr (.inl (fun _ => 0)))) hexec hb harr rfl hK hC.1 hC.2.1 hC.2.2.1 (fun q h => Nat.le_trans hbase h) (fun cA => rfl) hn hN hbytes hcells hslots hdg (fun q cA H1 hK1 hP hD hS => ?_)
  have h1 : s.vm.findClass ("[" ++ (FieldType.long).toString) = some cA := (hK1.2 7 (cA, .long) rfl).2
  have h2 : s.vm.findClass ("[" ++ (FieldType.long).toString) = some (cy 3) := (hK.2 3 (cy 3, .long) rfl).2
  have h3 : cA = cy 3 := Option.some.inj (h1.symm.trans h2)
  subst h3
  obtain ⟨hq, he⟩ := zpool_push (Z' := Zn q) (lab := lab) hD (hoff q) (hdef q).symm
  rw [he] at hP hD
  exact kk q H1 (zfresh hC.2.2.2 hq) ⟨hP, hD, hS, zC.grow hC.2.2.2⟩
/-- a new array of references -/
theorem z_newq {Zn : Nat → zW} {lab N' ti : Nat} {n : Int32} {C : String} (hexec : p.tables.exec = Jvm.exec) (hb : cd.code = cc) (hown : s.vm.findClass own = some m.cls) (hcl : (Cond.classLink own index C).before args s = true) (hover : va_AO C s) (hK : va_K D vwCl (ztys cy) s) (hti : (ztys cy)[ti]? = some (cy ti, .object C)) (hbase : base ≤ H0.size) (hC : zC D cy base K L Z H0 H locs) (hn : ¬ n < 0) (hN : n.toNatClampNeg = N') (hbytes : N' * 4 ≤ 536870912) (hcells : cells + 1 ≤ R.cells) (hslots : slots + N' ≤ R.slots) (hdef : ∀ q, zcell cy (Zn q) lab q = .inl (cy ti, N', .inr (.inr (.inr (.inr (fun _ => none)))))) (hoff : ∀ q, zOff cy Z (Zn q) q) (hdg : decode cc pc = .ok (.anewarray index, 3))
    (kk : ∀ (q : Nat) (H1 : Heap), 255 ≤ K q → zC D cy base (va_up K q lab) (L ++ [q]) (Zn q) H0 H1 locs → W p l e R s m args below meth cd H1 locs (cells + 1) (slots + N') Q (F0 m (pc + 3) ls (.ref q :: rest))) : W p l e R s m args below meth cd H locs cells slots Q (F0 m pc ls (.int n :: rest)) := by
  refine va_newq hexec hb hown hcl hover hK hC.1 hC.2.1 hC.2.2.1 (fun q h => Nat.le_trans hbase h) hn hN hbytes hcells hslots hdg (fun q cA H1 hK1 hP hD hS => ?_)
  obtain ⟨kA, comp, -, -, -, h1⟩ := (hK1.2 7 (cA, .object C) rfl).2
  obtain ⟨kB, comp2, -, -, -, h2⟩ := (hK.2 ti (cy ti, .object C) hti).2
  have h3 : cA = cy ti := Option.some.inj (h1.symm.trans h2)
  subst h3
  obtain ⟨hq, he⟩ := zpool_push (Z' := Zn q) (lab := lab) hD (hoff q) (hdef q).symm
  rw [he] at hP hD
  exact kk q H1 (zfresh hC.2.2.2 hq) ⟨hP, hD, hS, zC.grow hC.2.2.2⟩
theorem z_rI {y : MethodName} {bytes : ByteArray} {maxL nL n index : Nat} {ws : List Cond} {rm : Room} {Qc : Array Value → State → Outcome → State → Prop} {free : Addr → Prop} {Ts : List Cond} {own : String} {b : Nat} {As : List Value} (S : CallFix p m cd cc nL s args Ts own) (hM : Met l y ws rm (va_Pc (.ref b :: As) (zGW zts zns D cy base st K L Z)) Qc mc ms free) (cw : CallB R s args own index y bytes maxL none ws rm mc ms n ∧ y.name = "<init>" ∧ (Cond.instanceMethod y).before args s = true) (hG : zGW zts zns D cy base st K' L' Z0 s) (hC : zC D cy base K L Z s.heap H locs) (hn : As.length = n) (hsize : ls.size = nL) (hst : st0 = As.reverse ++ .ref b :: rest) (hW : 2 * (F0 m pc ls st0).monitorRoom + (rest.map fun v => v.category).sum ≤ 8) (hdg : decode cc pc = .ok (.invokespecial index, 3)) (hf : cells + mc ≤ R.cells ∧ slots + ms ≤ R.slots) :
    va_Run p l e R s m args below meth cd H locs cells slots mc ms (F0 m pc ls st0) rest (Qc (Value.ref b :: As).toArray) free :=
  va_runI S hM cw ⟨zGW.blind, fun U hU hW => ⟨rfl, hG.at hC hU hW⟩⟩ rfl hn hsize hst hW hdg hf
theorem z_rIN {y : MethodName} {bytes : ByteArray} {maxL nL n index : Nat} {ws : List Cond} {rm : Room} {Qc : Array Value → State → Outcome → State → Prop} {free : Addr → Prop} {Ts : List Cond} {own : String} {b : Nat} {As : List Value} {host : String} (S : CallFix p m cd cc nL s args Ts own) (hM : Met l y ws rm (va_Pc (.ref b :: As) (zGW zts zns D cy base st K L Z)) Qc mc ms free) (cw : va_CN R s args own index y host bytes maxL none ws rm mc ms n ∧ y.name = "<init>" ∧ (Cond.instanceMethod y).before args s = true) (hG : zGW zts zns D cy base st K' L' Z0 s) (hC : zC D cy base K L Z s.heap H locs) (hn : As.length = n) (hsize : ls.size = nL) (hst : st0 = As.reverse ++ .ref b :: rest) (hW : 2 * (F0 m pc ls st0).monitorRoom + (rest.map fun v => v.category).sum ≤ 8) (hdg : decode cc pc = .ok (.invokespecial index, 3)) (hf : cells + mc ≤ R.cells ∧ slots + ms ≤ R.slots) :
    va_Run p l e R s m args below meth cd H locs cells slots mc ms (F0 m pc ls st0) rest (Qc (Value.ref b :: As).toArray) free :=
  va_runIN S hM cw ⟨zGW.blind, fun U hU hW => ⟨rfl, hG.at hC hU hW⟩⟩ rfl hn hsize hst hW hdg hf
/-- behind a constructor that makes objects: labels, addresses and state are new, related by P -/
theorem z_cvA {av : Array Value} {P : (Nat → Nat) → List Nat → zS → Prop} (hr : va_Run p l e R s m args below meth cd H locs cells slots mc ms (F0 m pc ls st0) rest (va_Qv (fun (u : (Nat → Nat) × List Nat × zS) => P u.1 u.2.1 u.2.2) (fun u => zB D cy base u.1 u.2.1 (u.2.2, r, o)) (zA base) av) (zA base)) (hC : zC D cy base K L Z s.heap H locs)
    (kk : ∀ (K1 : Nat → Nat) (L1 : List Nat) (c1 : zS) (H1 : Heap) (locs1 : List Loc), P K1 L1 c1 → zC D cy base K1 L1 (c1, r, o) s.heap H1 locs1 → W p l e R s m args below meth cd H1 locs1 (cells + mc) (slots + ms) Q (F0 m (pc + 3) ls rest)) : W p l e R s m args below meth cd H locs cells slots Q (F0 m pc ls st0) :=
  va_callv hr hC.2.2.1 (fun q _ h => h) (fun q h => h) (fun u t H1 locs1 ht hvm hp hB hz hk hS => kk u.1 u.2.1 u.2.2 H1 locs1 hp ⟨by rw [← ht]; exact hB.1, hB.2.1, hS, hB.2.2⟩)
theorem z_vretA {P : (Nat → Nat) → List Nat → zS → Prop} {K1 : Nat → Nat} {L1 : List Nat} {c1 : zS} (hx : p.tables.exec = Jvm.exec) (hb : cd.code = cc) (hr : meth.sig.returnType = none) (hlocks : meth.locks = false) (hC : zC D cy base K1 L1 (c1, r, o) s.heap H locs) (hP : P K1 L1 c1) (hdg : decode cc pc = .ok (.return_, 1)) : W p l e R s m args below meth cd H locs cells slots (MQ below (va_Qv (fun (u : (Nat → Nat) × List Nat × zS) => P u.1 u.2.1 u.2.2) (fun u => zB D cy base u.1 u.2.1 (u.2.2, r, o)) (zA base)) args s cells slots (zA base)) (F0 m pc ls []) :=
  W.vret hx hb hr (fun t ht hW => ⟨⟨(K1, L1, c1), rfl, hP, hC.out ht⟩, hC.2.2.1.F ht⟩) hC.2.2.1.2.2 hdg hlocks
theorem z_vretB {P : (Nat → Nat) → List Nat → zS → Prop} {K1 : Nat → Nat} {L1 : List Nat} {r1 : zS} (hx : p.tables.exec = Jvm.exec) (hb : cd.code = cc) (hr : meth.sig.returnType = none) (hlocks : meth.locks = false) (hC : zC D cy base K1 L1 (c, r1, o) s.heap H locs) (hP : P K1 L1 r1) (hdg : decode cc pc = .ok (.return_, 1)) : W p l e R s m args below meth cd H locs cells slots (MQ below (va_Qv (fun (u : (Nat → Nat) × List Nat × zS) => P u.1 u.2.1 u.2.2) (fun u => zB D cy base u.1 u.2.1 (c, u.2.2, o)) (zA base)) args s cells slots (zA base)) (F0 m pc ls []) :=
  W.vret hx hb hr (fun t ht hW => ⟨⟨(K1, L1, r1), rfl, hP, hC.out ht⟩, hC.2.2.1.F ht⟩) hC.2.2.1.2.2 hdg hlocks
theorem z_cvB {av : Array Value} {P : (Nat → Nat) → List Nat → zS → Prop} (hr : va_Run p l e R s m args below meth cd H locs cells slots mc ms (F0 m pc ls st0) rest (va_Qv (fun (u : (Nat → Nat) × List Nat × zS) => P u.1 u.2.1 u.2.2) (fun u => zB D cy base u.1 u.2.1 (c, u.2.2, o)) (zA base) av) (zA base)) (hC : zC D cy base K L Z s.heap H locs)
    (kk : ∀ (K1 : Nat → Nat) (L1 : List Nat) (r1 : zS) (H1 : Heap) (locs1 : List Loc), P K1 L1 r1 → zC D cy base K1 L1 (c, r1, o) s.heap H1 locs1 → W p l e R s m args below meth cd H1 locs1 (cells + mc) (slots + ms) Q (F0 m (pc + 3) ls rest)) : W p l e R s m args below meth cd H locs cells slots Q (F0 m pc ls st0) :=
  va_callv hr hC.2.2.1 (fun q _ h => h) (fun q h => h) (fun u t H1 locs1 ht hvm hp hB hz hk hS => kk u.1 u.2.1 u.2.2 H1 locs1 hp ⟨by rw [← ht]; exact hB.1, hB.2.1, hS, hB.2.2⟩)
theorem z_xiretA {XC : String → State → State → Prop} {P : Int32 → (Nat → Nat) → List Nat → zS → Prop} {x : Int32} {K1 : Nat → Nat} {L1 : List Nat} {c1 : zS} (hx : p.tables.exec = Jvm.exec) (hb : cd.code = cc) (hr : meth.sig.returnType = some .int) (hlocks : meth.locks = false) (hC : zC D cy base K1 L1 (c1, r, o) s.heap H locs) (hP : P x K1 L1 c1) (hdg : decode cc pc = .ok (.ireturn, 1)) : W p l e R s m args below meth cd H locs cells slots (vx_MQ below (va_Qi (fun (rr : Int32) (u : (Nat → Nat) × List Nat × zS) => P rr u.1 u.2.1 u.2.2) (fun u => zB D cy base u.1 u.2.1 (u.2.2, r, o)) (zA base)) XC args s cells slots (zA base)) (F0 m pc ls [.int x]) :=
  vx_ret (W.iret (v := x) hx hb hr (fun t ht hW => ⟨⟨x, (K1, L1, c1), rfl, hP, hC.out ht⟩, hC.2.2.1.F ht⟩) hC.2.2.1.2.2 hdg hlocks)
theorem z_obj {idx : Nat} (hexec : p.tables.exec = Jvm.exec) (hb : cd.code = cc) (hown : s.vm.findClass own = some m.cls) (h1 : (Cond.methodLink own idx Lib.objectInit).before args s = true) (h2 : (Cond.instanceMethod Lib.objectInit).before args s = true) (h3 : (Cond.code Lib.objectInit ⟨#[0xb1]⟩ 1 none).before args s = true) (hsize : ls.size = cd.maxLocals) (hdg : decode cc pc = .ok (.invokespecial idx, 3)) (hfr : 1 ≤ R.frames) (hlo : 2 * (F0 m pc ls (.ref a :: rest)).monitorRoom + (rest.map fun v => v.category).sum + 12 ≤ R.locals)
    (kk : W p l e R s m args below meth cd H locs cells slots Q (F0 m (pc + 3) ls rest)) : W p l e R s m args below meth cd H locs cells slots Q (F0 m pc ls (.ref a :: rest)) :=
  W.objInit hexec hb hown h1 h2 h3 rfl hsize rfl hdg hfr hlo (W.eq (g2 := F0 m (pc + 3) ls rest) rfl kk)
end ZA
