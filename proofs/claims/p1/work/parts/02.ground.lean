-- ===== the ground: what every contract asks of the start, and what calls and throws need =====
/-- the tables' words that don't ride in the methods' lists: texts, arrays' classes, interfaces, casts -/
def gx_strs : List (String × Nat × String) := [(RX9, 64, "no such system"), (RX9, 150, "no models"), (RX9, 406, "no minutes are to be done"), (RX9, 408, "no such material"), (RX9, 507, "no tickets"), (RX9, 510, "no hides"), (RX9, 515, "a number is out of range"), (RX9, 519, "no such model"), (RX9, 522, "no such style"), (RX9, 536, "no such hide"), (RX9, 538, "no such operator"), (RX9, 540, "no such ticket"), (RX9, 571, "no cause")]
def gx_aos : List String := ["Lastroom$Model", "Lastroom$Style", "Lastroom$Hide", "Lastroom$Ticket", "Lastroom$Lot", "Lastroom$Operator", "java/lang/Object"]
def gx_fws : List (String × MethodName × MethodName) := [("java/util/ArrayList", ⟨"java/util/List", "size", "()I"⟩, ⟨"java/util/ArrayList", "size", "()I"⟩), ("java/util/ArrayList", ⟨"java/util/List", "add", "(Ljava/lang/Object;)Z"⟩, ⟨"java/util/ArrayList", "add", "(Ljava/lang/Object;)Z"⟩), ("java/util/ArrayList", ⟨"java/util/List", "iterator", "()Ljava/util/Iterator;"⟩, ⟨"java/util/ArrayList", "iterator", "()Ljava/util/Iterator;"⟩), ("java/util/ArrayList$Itr", ⟨"java/util/Iterator", "hasNext", "()Z"⟩, ⟨"java/util/ArrayList$Itr", "hasNext", "()Z"⟩), ("java/util/ArrayList", ⟨"java/util/List", "isEmpty", "()Z"⟩, ⟨"java/util/ArrayList", "isEmpty", "()Z"⟩)]
def gx_ncs : List (String × String) := [("java/lang/IndexOutOfBoundsException", "java/lang/IllegalArgumentException"), ("java/util/NoSuchElementException", "java/lang/IllegalArgumentException"), ("java/lang/IllegalArgumentException", "java/lang/IndexOutOfBoundsException")]
def gx_cas : List (String × String) := [("java/lang/IllegalArgumentException", "java/lang/IllegalArgumentException"), ("java/lang/IndexOutOfBoundsException", "java/lang/IndexOutOfBoundsException"), ("java/util/NoSuchElementException", "java/util/NoSuchElementException"), ("java/lang/ArithmeticException", "java/lang/ArithmeticException"), ("[I", "java/lang/Object"), ("LastroomModel$Hide", "java/lang/Object")]
def gx_dcl : List MethodName := [⟨"java/lang/RuntimeException", "<init>", "(Ljava/lang/String;)V"⟩, ⟨"java/lang/Exception", "<init>", "(Ljava/lang/String;)V"⟩, ⟨"java/lang/Throwable", "<init>", "(Ljava/lang/String;)V"⟩]
def G1 (U : State) : Prop := (∀ q ∈ gx_strs, ∃ a, vk_R q.1 q.2.1 q.2.2 a U) ∧ (∀ C ∈ gx_aos, va_AO C U) ∧ (∀ q ∈ gx_fws, va_Fw q.1 q.2.1 q.2.2 U) ∧ (∀ q ∈ gx_ncs, va_Nc q.1 q.2 U) ∧ (∀ q ∈ gx_cas, va_Nw (.castable q.1 q.2) U) ∧ va_Nw (.methodLinkNest RX9 49 yX4_init RX9) U ∧ (∀ y ∈ gx_dcl, va_Nw (.declares y) U) ∧ va_Nw (.fieldLinkNest "java/util/ArrayList$Itr" 28 "java/util/ArrayList" "size" "I" "java/util/ArrayList") U
theorem gx_fws_ok : ∀ q ∈ gx_fws, q.2.1.cls ≠ "java/lang/invoke/MethodHandle" ∧ q.2.1.cls ≠ "java/lang/invoke/VarHandle" := by decide +kernel
theorem G1.moved {s U : State} (hW : s.WarmedH U.vm) (h : G1 s) : G1 U := by
  obtain ⟨h1, h2, h3, h4, h5, h6, h8, h9⟩ := h
  refine ⟨fun q hq => ?_, fun C hC => (h2 C hC).moved hW.alike, fun q hq => (h3 q hq).moved (gx_fws_ok q hq) hW.alike, fun q hq => (h4 q hq).moved hW.alike, fun q hq => va_Nw.warmC hW (h5 q hq), va_Nw.warmM hW h6, fun y hy => va_Nw.warmD hW (h8 y hy), va_Nw.warmF hW h9⟩
  obtain ⟨a, ha⟩ := h1 q hq
  exact ⟨a, vk_R.warm hW ha⟩
/-- the letters of the causes -/
def gx_fC : Nat → Value := fun j => if j = 0 then .int 104 else if j = 1 then .int 107 else if j = 2 then .int 115 else if j = 3 then .int 103 else .int 122
def G0 (tC tE : Nat) (A : Nat → Prop) (U : State) : Prop :=
  vx_Zq Bundle.tN "UNASSIGNED_STACK" Bundle.steD A U U.heap ∧ vx_Zq Bundle.tN "SUPPRESSED_SENTINEL" Bundle.listD A U U.heap ∧
  va_Z "Lastroom" "CAUSES" "[C" (.ref tC) A U U.heap ∧ va_T .char tC 5 gx_fC A U U.heap ∧
  va_Z "java/util/ArrayList" "DEFAULTCAPACITY_EMPTY_ELEMENTDATA" "[Ljava/lang/Object;" (.ref tE) A U U.heap ∧ va_T (.object "java/lang/Object") tE 0 (fun _ => .null) A U U.heap ∧ G1 U
theorem G0.next {tC tE : Nat} {A A' : Nat → Prop} {s U : State} {H : Heap} {locs : List Loc} (h : G0 tC tE A s) (hS : va_S A s.heap H locs) (hF : ∀ q, A' q → A q) (hU : U.heap = H) (hW : s.WarmedH U.vm) : G0 tC tE A' U := by
  obtain ⟨h1, h2, h3, h4, h5, h6, h7⟩ := h
  subst hU
  exact ⟨vx_Zq.moved hW.alike ((h1.kept hS.2.1).narrow hF), vx_Zq.moved hW.alike ((h2.kept hS.2.1).narrow hF), va_Z.moved hW.alike ((h3.kept hS.2.1).narrow hF), va_T.moved hW.alike ((h4.kept hS.2.1).narrow hF), va_Z.moved hW.alike ((h5.kept hS.2.1).narrow hF), va_T.moved hW.alike ((h6.kept hS.2.1).narrow hF), h7.moved hW⟩
theorem G0.same {tC tE : Nat} {A : Nat → Prop} {s U : State} (h : G0 tC tE A s) (hh : U.heap = s.heap) (hW : s.WarmedH U.vm) : G0 tC tE A U := h.next (va_S.rf (A := A) (H0 := s.heap)) (fun _ q => q) hh hW
/-- a contract's start -/
def Pg (D : va_G) (tC tE sz : Nat) (W0 : va_W) (tys : List (ClassId × FieldType)) (av : List Value) : Array Value → State → Prop :=
  va_Pc av (fun U => U.heap.size = sz ∧ va_P D vwCl W0 U.heap ∧ va_K D vwCl tys U ∧ va_D (fun _ => True) W0 ∧ G0 tC tE (va_A W0 sz) U)
theorem pg_blind {D : va_G} {tC tE sz : Nat} {W0 : va_W} {tys : List (ClassId × FieldType)} {av : List Value} : FrameBlind (Pg D tC tE sz W0 tys av) := by
  intro a U g mk q
  obtain ⟨q0, q1, qP, qK, qD, qG⟩ := q
  exact ⟨q0, q1, qP, va_K.moved (u := U) (U := U.calling g mk a) (Vm.Alike.refl U.vm) qK, qD, qG.same rfl (State.WarmedH.refl U)⟩
theorem gx_fm {α : Type} {ws wc : List α} {is : List Nat} (h : is.map (fun i => ws[i]?) = wc.map some) : is.filterMap (fun i => ws[i]?) = wc := by
  have e := congrArg (List.filterMap id) h
  simpa [List.filterMap_map] using e
section PGP
variable {s : State} {D : va_G} {tC tE : Nat} {A : Nat → Prop} {ws wc : va_W} {tys tc : List (ClassId × FieldType)} {H : Heap} {locs : List Loc}
theorem pg_pre (hP : va_P D vwCl ws H) (hD : va_D A ws) (hK : va_K D vwCl tys s) (hG : G0 tC tE A s) (hS : va_S A s.heap H locs) (hF : ∀ q, va_A wc H.size q → A q) (is : List Nat) (hC : is.map (fun i => ws[i]?) = wc.map some) (hn : va_nd is = true) (ts : List Nat) (hT : ts.filterMap (fun i => tys[i]?) = tc) (av : List Value) :
    ∀ U : State, U.heap = H → s.WarmedH U.vm → Pg D tC tE H.size wc tc av av.toArray U := by
  intro U hU hW
  exact ⟨rfl, by rw [hU], by rw [hU]; exact hP.sub is (gx_fm hC), va_K.moved hW.alike (hK.sub ts hT), (hD.sub is hn hC).weaken (fun _ _ _ _ => trivial), hG.next hS hF hU hW⟩
end PGP
/-- a contract's end: the answer and the world behind it -/
def Bg {S : Type} (D : va_G) (W1 : S → va_W) (T1 : S → List (ClassId × FieldType)) (A : Nat → Prop) : S → State → Prop := fun u t => va_P D vwCl (W1 u) t.heap ∧ va_K D vwCl (T1 u) t ∧ va_D A (W1 u)
def Qgi {S : Type} (D : va_G) (W1 : S → va_W) (T1 : S → List (ClassId × FieldType)) (post : Int32 → S → Prop) (A : Nat → Prop) : Array Value → State → Outcome → State → Prop := va_Qi post (Bg D W1 T1 A) A
def Qgl {S : Type} (D : va_G) (W1 : S → va_W) (T1 : S → List (ClassId × FieldType)) (post : Int64 → S → Prop) (A : Nat → Prop) : Array Value → State → Outcome → State → Prop := va_Ql post (Bg D W1 T1 A) A
def Qgf {S : Type} (D : va_G) (W1 : S → va_W) (T1 : S → List (ClassId × FieldType)) (post : UInt32 → S → Prop) (A : Nat → Prop) : Array Value → State → Outcome → State → Prop := va_Qf post (Bg D W1 T1 A) A
def Qgd {S : Type} (D : va_G) (W1 : S → va_W) (T1 : S → List (ClassId × FieldType)) (post : UInt64 → S → Prop) (A : Nat → Prop) : Array Value → State → Outcome → State → Prop := va_Qd post (Bg D W1 T1 A) A
def Qgv {S : Type} (D : va_G) (W1 : S → va_W) (T1 : S → List (ClassId × FieldType)) (post : S → Prop) (A : Nat → Prop) : Array Value → State → Outcome → State → Prop := va_Qv post (Bg D W1 T1 A) A
def Qgr {S : Type} (D : va_G) (W1 : S → va_W) (T1 : S → List (ClassId × FieldType)) (ad : S → Nat) (post : S → Prop) (A : Nat → Prop) : Array Value → State → Outcome → State → Prop := va_Qr post (fun u a t => a = ad u ∧ Bg D W1 T1 A u t) A
/-- .. where it throws: the class of what is thrown -/
def XX (Rx : String → Prop) (A : Nat → Prop) : String → State → State → Prop := vx_X (fun _ : Unit => True) (fun E _ _ => Rx E) A
theorem xx_throw {Rx : String → Prop} {A : Nat → Prop} {s : State} {H : Heap} {locs : List Loc} {E : String} (hS : va_S A s.heap H locs) (hR : Rx E) : ∀ t : State, s.vm.Alike t.vm → H.size ≤ t.heap.size → (∀ q : Nat, q < H.size → t.heap[q]? = H[q]?) → XX Rx A E s t := fun t _ h1 h2 =>
  ⟨(), trivial, hR, Nat.le_trans hS.1 h1, fun q hq hA => by rw [h2 q (Nat.lt_of_lt_of_le hq hS.1)]; exact hS.2.1 q hq hA⟩
theorem xx_out {Rx : String → Prop} {A : Nat → Prop} {s : State} {H : Heap} {locs : List Loc} {E : String} (hS : va_S A s.heap H locs) (hR : Rx E) : ∀ t : State, t.heap = H → s.vm.Alike t.vm → XX Rx A E s t := fun t ht _ =>
  ⟨(), trivial, hR, hS.F ht⟩
/-- behind a call: the caller's other cells, and the callee's world -/
theorem jn {S : Type} {A0 : Nat → Prop} {D : va_G} {ws wc wr w1 : va_W} {tys tr t1 : List (ClassId × FieldType)} {H H1 : Heap} {s t : State} (hP : va_P D vwCl ws H) (hD : va_D A0 ws) (hK : va_K D vwCl tys s) (isC isR : List Nat) (hC : isC.map (fun i => ws[i]?) = wc.map some) (hR : isR.map (fun i => ws[i]?) = wr.map some) (hn : va_nd isR = true) (hdis : ∀ i ∈ isR, i ∉ isC) (ts : List Nat) (hT : ts.filterMap (fun i => tys[i]?) = tr)
    (hk : ∀ q : Nat, q < H.size → ¬ va_A wc H.size q → H1[q]? = H[q]?) (hF : ∀ q, va_A wc H.size q → A0 q) {W1 : S → va_W} {T1 : S → List (ClassId × FieldType)} {u : S} (hB : Bg D W1 T1 (va_A wc H.size) u t) (hw : W1 u = w1) (ht1 : T1 u = t1) (ht : t.heap = H1) (hvm : s.vm.Alike t.vm) : va_P D vwCl (wr ++ w1) H1 ∧ va_D A0 (wr ++ w1) ∧ va_K D vwCl (tr ++ t1) s := by
  obtain ⟨b1, b2, b3⟩ := hB
  rw [hw] at b1 b3
  rw [ht1] at b2
  rw [ht] at b1
  obtain ⟨j1, j2⟩ := va_join hP hD isC isR hC hR hn hdis hk hF b1 b3
  exact ⟨j1, j2, (hK.sub ts hT).app (va_K.moved hvm.symm b2)⟩
section OPEN
variable {l : Launch} {y : MethodName} {ws ws' : List Cond} {rm : Room} {mc ms : Nat} {cc : ByteArray} {maxL : Nat} {ret : Option FieldType} {D : va_G} {tC tE sz : Nat} {W0 : va_W} {tys : List (ClassId × FieldType)} {av : List Value}
/-- a method that may throw, from its entry -/
theorem og_x {Qc : (Nat → Prop) → Array Value → State → Outcome → State → Prop} {XC : (Nat → Prop) → String → State → State → Prop}
    (hy : plainName y.cls = true) (hw : ws = Cond.code y cc maxL ret :: ws') (hml : (lg_sl av).length ≤ maxL)
    (body : ∀ (p : Program) (e : Env) (s : State) (m : MethodId) (below : List Frame) (meth : Method) (c : Code) (A : Nat → Prop), p.tables.exec = Jvm.exec → c.code = cc → meth.sig.returnType = ret → c.maxLocals = maxL → (∀ w ∈ ws, w.before av.toArray s = true) → s.vm.findClass y.cls = some m.cls → meth.locks = false → meth.name = y.name → (∀ x ∈ c.exceptionTable.toList, False) →
      va_P D vwCl W0 s.heap → va_D A W0 → va_K D vwCl tys s → G0 tC tE A s → (∀ q : Nat, s.heap.size ≤ q → A q) → va_S A s.heap s.heap [] → ∀ ls : Array Slot, lv_has ls maxL (lv_args 0 av) →
      W p l e rm s m av.toArray below meth c s.heap [] 0 0 (vx_MQ below (Qc A) (XC A) av.toArray s mc ms A) (F0 m 0 ls [])) :
    vx_Met l y ws rm (Pg D tC tE sz W0 tys av) (Qc (va_A W0 sz)) (XC (va_A W0 sz)) mc ms (va_A W0 sz) := by
  refine vx_ofW (cc := cc) (maxL := maxL) (ret := ret) hy hw ?_
  intro p e s m args below meth c s₁ B hml2 htab hv
  obtain ⟨rfl, hsz, hP, hK, hD0, hG⟩ := hv
  subst hsz
  have hl := lv_entry av (n := maxL) hml
  rw [lg_entry_eq]
  exact body p e s m below meth c _ B.exec B.bytes B.returns hml2 (atoms_spec (ws := ws) B.pre) (findClass_of_methodNamed B.named) B.notSynchronized (name_of_methodNamed B.named B.method).1 htab hP (hD0.self) hK hG (fun q h => Or.inr h) va_S.rf _ hl
/-- a method that doesn't throw -/
theorem og_m {Qc : (Nat → Prop) → Array Value → State → Outcome → State → Prop}
    (hy : plainName y.cls = true) (hw : ws = Cond.code y cc maxL ret :: ws') (hml : (lg_sl av).length ≤ maxL)
    (body : ∀ (p : Program) (e : Env) (s : State) (m : MethodId) (below : List Frame) (meth : Method) (c : Code) (A : Nat → Prop), p.tables.exec = Jvm.exec → c.code = cc → meth.sig.returnType = ret → c.maxLocals = maxL → (∀ w ∈ ws, w.before av.toArray s = true) → s.vm.findClass y.cls = some m.cls → meth.locks = false → meth.name = y.name →
      va_P D vwCl W0 s.heap → va_D A W0 → va_K D vwCl tys s → G0 tC tE A s → (∀ q : Nat, s.heap.size ≤ q → A q) → va_S A s.heap s.heap [] → ∀ ls : Array Slot, lv_has ls maxL (lv_args 0 av) →
      W p l e rm s m av.toArray below meth c s.heap [] 0 0 (MQ below (Qc A) av.toArray s mc ms A) (F0 m 0 ls [])) :
    Met l y ws rm (Pg D tC tE sz W0 tys av) (Qc (va_A W0 sz)) mc ms (va_A W0 sz) := by
  refine Met.ofW (cc := cc) (maxL := maxL) (ret := ret) hy hw ?_
  intro p e s m args below meth c s₁ B hml2 hv
  obtain ⟨rfl, hsz, hP, hK, hD0, hG⟩ := hv
  subst hsz
  have hl := lv_entry av (n := maxL) hml
  rw [lg_entry_eq]
  exact body p e s m below meth c _ B.exec B.bytes B.returns hml2 (atoms_spec (ws := ws) B.pre) (findClass_of_methodNamed B.named) B.notSynchronized (name_of_methodNamed B.named B.method).1 hP (hD0.self) hK hG (fun q h => Or.inr h) va_S.rf _ hl
/-- a method with a table of its own, that catches what comes -/
theorem og_h {Qc : (Nat → Prop) → Array Value → State → Outcome → State → Prop} {hh : List (Nat × Nat × Nat × Nat)}
    (hy : plainName y.cls = true) (hw : ws = Cond.codeWith y cc maxL ret hh :: ws') (hml : (lg_sl av).length ≤ maxL)
    (body : ∀ (p : Program) (e : Env) (s : State) (m : MethodId) (below : List Frame) (meth : Method) (c : Code) (A : Nat → Prop), p.tables.exec = Jvm.exec → c.code = cc → meth.sig.returnType = ret → c.maxLocals = maxL → (∀ w ∈ ws, w.before av.toArray s = true) → s.vm.findClass y.cls = some m.cls → meth.locks = false → c.exceptionTable.toList = tableOf hh →
      va_P D vwCl W0 s.heap → va_D A W0 → va_K D vwCl tys s → G0 tC tE A s → (∀ q : Nat, s.heap.size ≤ q → A q) → va_S A s.heap s.heap [] → ∀ ls : Array Slot, lv_has ls maxL (lv_args 0 av) →
      W p l e rm s m av.toArray below meth c s.heap [] 0 0 (MQ below (Qc A) av.toArray s mc ms A) (F0 m 0 ls [])) :
    Met l y ws rm (Pg D tC tE sz W0 tys av) (Qc (va_A W0 sz)) mc ms (va_A W0 sz) := by
  refine va_MetW (cc := cc) (maxL := maxL) (ret := ret) (hh := hh) hy hw ?_
  intro p e s m args below meth c s₁ B hml2 hv
  obtain ⟨rfl, hsz, hP, hK, hD0, hG⟩ := hv
  subst hsz
  have hl := lv_entry av (n := maxL) hml
  rw [lg_entry_eq]
  exact body p e s m below meth c _ B.exec B.bytes B.returns hml2 (atoms_spec (ws := ws) B.pre) (findClass_of_methodNamed B.named) B.notSynchronized (vx_table (x := y) B (atoms_spec (ws := ws) B.pre _ (by rw [hw]; exact List.mem_cons_self))) hP (hD0.self) hK hG (fun q h => Or.inr h) va_S.rf _ hl
end OPEN
-- ===== ends of a method, and throws =====
section ENDS
variable {p : Program} {l : Launch} {e : Env} {R : Room} {s : State} {m : MethodId} {args : Array Value} {below : List Frame} {meth : Method} {c : Code} {H : Heap} {locs : List Loc} {cells slots mc ms pc : Nat} {ls : Array Slot} {cc : ByteArray} {A : Nat → Prop} {D : va_G}
variable {S : Type} {W1 : S → va_W} {T1 : S → List (ClassId × FieldType)} {ws : va_W} {tys : List (ClassId × FieldType)}
theorem end_i {post : Int32 → S → Prop} {r : Int32} (hx : p.tables.exec = Jvm.exec) (hb : c.code = cc) (hr : meth.sig.returnType = some .int) (hlocks : meth.locks = false) (hP : va_P D vwCl ws H) (hD : va_D A ws) (hK : va_K D vwCl tys s) (hS : va_S A s.heap H locs) (u : S) (hw : W1 u = ws) (ht : T1 u = tys) (hp : post r u) (hc : cells ≤ mc) (hs : slots ≤ ms) (d : decode cc pc = .ok (.ireturn, 1)) :
    W p l e R s m args below meth c H locs cells slots (MQ below (Qgi D W1 T1 post A) args s mc ms A) (F0 m pc ls [.int r]) := by
  subst hw; subst ht
  refine W.widen hc hs ?_
  exact W.iret hx hb hr (fun t ht2 hW => ⟨⟨r, u, rfl, hp, by rw [ht2]; exact hP, va_K.moved hW.alike hK, hD⟩, hS.F ht2⟩) hS.2.2 d hlocks
theorem end_z {post : Int32 → S → Prop} {r : Int32} {ty : FieldType} (hx : p.tables.exec = Jvm.exec) (hb : c.code = cc) (hr : meth.sig.returnType = some ty) (hlocks : meth.locks = false) (hn : narrow ty (.int r) = .int r) (hP : va_P D vwCl ws H) (hD : va_D A ws) (hK : va_K D vwCl tys s) (hS : va_S A s.heap H locs) (u : S) (hw : W1 u = ws) (ht : T1 u = tys) (hp : post r u) (hc : cells ≤ mc) (hs : slots ≤ ms) (d : decode cc pc = .ok (.ireturn, 1)) :
    W p l e R s m args below meth c H locs cells slots (MQ below (Qgi D W1 T1 post A) args s mc ms A) (F0 m pc ls [.int r]) := by
  subst hw; subst ht
  refine W.widen hc hs ?_
  exact W.zret hx hb hr hn (fun t ht2 hW => ⟨⟨r, u, rfl, hp, by rw [ht2]; exact hP, va_K.moved hW.alike hK, hD⟩, hS.F ht2⟩) hS.2.2 d hlocks
theorem end_v {post : S → Prop} (hx : p.tables.exec = Jvm.exec) (hb : c.code = cc) (hr : meth.sig.returnType = none) (hlocks : meth.locks = false) (hP : va_P D vwCl ws H) (hD : va_D A ws) (hK : va_K D vwCl tys s) (hS : va_S A s.heap H locs) (u : S) (hw : W1 u = ws) (ht : T1 u = tys) (hp : post u) (hc : cells ≤ mc) (hs : slots ≤ ms) (d : decode cc pc = .ok (.return_, 1)) :
    W p l e R s m args below meth c H locs cells slots (MQ below (Qgv D W1 T1 post A) args s mc ms A) (F0 m pc ls []) := by
  subst hw; subst ht
  refine W.widen hc hs ?_
  exact W.vret hx hb hr (fun t ht2 hW => ⟨⟨u, rfl, hp, by rw [ht2]; exact hP, va_K.moved hW.alike hK, hD⟩, hS.F ht2⟩) hS.2.2 d hlocks
theorem end_l {post : Int64 → S → Prop} {r : Int64} (hx : p.tables.exec = Jvm.exec) (hb : c.code = cc) (hr : meth.sig.returnType = some .long) (hlocks : meth.locks = false) (hP : va_P D vwCl ws H) (hD : va_D A ws) (hK : va_K D vwCl tys s) (hS : va_S A s.heap H locs) (u : S) (hw : W1 u = ws) (ht : T1 u = tys) (hp : post r u) (hc : cells ≤ mc) (hs : slots ≤ ms) (d : decode cc pc = .ok (.lreturn, 1)) :
    W p l e R s m args below meth c H locs cells slots (MQ below (Qgl D W1 T1 post A) args s mc ms A) (F0 m pc ls [.long r]) := by
  subst hw; subst ht
  refine W.widen hc hs ?_
  exact W.lret hx hb hr (fun t ht2 hW => ⟨⟨r, u, rfl, hp, by rw [ht2]; exact hP, va_K.moved hW.alike hK, hD⟩, hS.F ht2⟩) hS.2.2 d hlocks
theorem end_f {post : UInt32 → S → Prop} {r : UInt32} (hx : p.tables.exec = Jvm.exec) (hb : c.code = cc) (hr : meth.sig.returnType = some .float) (hlocks : meth.locks = false) (hP : va_P D vwCl ws H) (hD : va_D A ws) (hK : va_K D vwCl tys s) (hS : va_S A s.heap H locs) (u : S) (hw : W1 u = ws) (ht : T1 u = tys) (hp : post r u) (hc : cells ≤ mc) (hs : slots ≤ ms) (d : decode cc pc = .ok (.freturn, 1)) :
    W p l e R s m args below meth c H locs cells slots (MQ below (Qgf D W1 T1 post A) args s mc ms A) (F0 m pc ls [.float r]) := by
  subst hw; subst ht
  refine W.widen hc hs ?_
  exact W.fret hx hb hr (fun t ht2 hW => ⟨⟨r, u, rfl, hp, by rw [ht2]; exact hP, va_K.moved hW.alike hK, hD⟩, hS.F ht2⟩) hS.2.2 d hlocks
theorem end_d {post : UInt64 → S → Prop} {r : UInt64} (hx : p.tables.exec = Jvm.exec) (hb : c.code = cc) (hr : meth.sig.returnType = some .double) (hlocks : meth.locks = false) (hP : va_P D vwCl ws H) (hD : va_D A ws) (hK : va_K D vwCl tys s) (hS : va_S A s.heap H locs) (u : S) (hw : W1 u = ws) (ht : T1 u = tys) (hp : post r u) (hc : cells ≤ mc) (hs : slots ≤ ms) (d : decode cc pc = .ok (.dreturn, 1)) :
    W p l e R s m args below meth c H locs cells slots (MQ below (Qgd D W1 T1 post A) args s mc ms A) (F0 m pc ls [.double r]) := by
  subst hw; subst ht
  refine W.widen hc hs ?_
  exact W.dret hx hb hr (fun t ht2 hW => ⟨⟨r, u, rfl, hp, by rw [ht2]; exact hP, va_K.moved hW.alike hK, hD⟩, hS.F ht2⟩) hS.2.2 d hlocks
theorem end_r {post : S → Prop} {ad : S → Nat} {a : Nat} {rt : FieldType} (hx : p.tables.exec = Jvm.exec) (hb : c.code = cc) (hr : meth.sig.returnType = some rt) (hrt : (∃ n, rt = .object n) ∨ ∃ t, rt = .array t) (hlocks : meth.locks = false) (hP : va_P D vwCl ws H) (hD : va_D A ws) (hK : va_K D vwCl tys s) (hS : va_S A s.heap H locs) (u : S) (hw : W1 u = ws) (ht : T1 u = tys) (ha : a = ad u) (hp : post u) (hc : cells ≤ mc) (hs : slots ≤ ms) (d : decode cc pc = .ok (.areturn, 1)) :
    W p l e R s m args below meth c H locs cells slots (MQ below (Qgr D W1 T1 ad post A) args s mc ms A) (F0 m pc ls [.ref a]) := by
  subst hw; subst ht
  refine W.widen hc hs ?_
  exact W.aret (v := .ref a) hx hb hr hrt (Or.inr ⟨a, rfl⟩) (fun t ht2 hW => ⟨⟨u, a, rfl, hp, ha, by rw [ht2]; exact hP, va_K.moved hW.alike hK, hD⟩, hS.F ht2⟩) hS.2.2 d hlocks
end ENDS
def gx_up : List String := ["java/lang/RuntimeException", "java/lang/Exception"]
def gx_iae : String := "java/lang/IllegalArgumentException"
def gx_ioo : String := "java/lang/IndexOutOfBoundsException"
def gx_nse : String := "java/util/NoSuchElementException"
def gx_ari : String := "java/lang/ArithmeticException"
/-- what is asked of a class that is thrown, but for the machine's state -/
def gx_thr (ik ic : Nat) (cls : String) : Prop := Bundle.fit cls = true ∧ (∀ w ∈ Cond.classLink RX9 ik cls :: Cond.initialized cls :: vx_atS RX9 ic cls gx_up, vx_ot w = true) ∧ (∀ w ∈ (vx_atS RX9 ic cls gx_up).filter (fun w => !goodWord w), w ∈ Cond.castable cls cls :: gx_dcl.map Cond.declares) ∧ (cls, cls) ∈ gx_cas
theorem gx_dcl_all {args : Array Value} {s : State} (h : ∀ y ∈ gx_dcl, va_Nw (.declares y) s) : ∀ w ∈ gx_dcl.map Cond.declares, w.before args s = true := by
  intro w hw
  obtain ⟨y, hy, rfl⟩ := List.mem_map.mp hw
  exact va_Nw.use rfl (h y hy)
theorem gx_up_ok : ∀ n ∈ gx_up, Bundle.fit n = true := by decide +kernel
theorem gx_thr_iae : gx_thr 62 66 gx_iae := ⟨by decide +kernel, by decide +kernel, by decide +kernel, by decide +kernel⟩
theorem gx_thr_ioo : gx_thr 517 521 gx_ioo := ⟨by decide +kernel, by decide +kernel, by decide +kernel, by decide +kernel⟩
theorem gx_thr_nse : gx_thr 148 152 gx_nse := ⟨by decide +kernel, by decide +kernel, by decide +kernel, by decide +kernel⟩
theorem gx_thr_ari : gx_thr 505 509 gx_ari := ⟨by decide +kernel, by decide +kernel, by decide +kernel, by decide +kernel⟩
section THR
variable {p : Program} {l : Launch} {e : Env} {R : Room} {s : State} {m : MethodId} {args : Array Value} {below : List Frame} {meth : Method} {c : Code} {H : Heap} {locs : List Loc} {cells slots mc ms pc : Nat} {ls : Array Slot} {cc : ByteArray} {A : Nat → Prop}
variable {Qc : Array Value → State → Outcome → State → Prop} {Rx : String → Prop} {tC tE ik ic is i : Nat} {cls text : String}
theorem th_w (ht : gx_thr ik ic cls) (hx : p.tables.exec = Jvm.exec) (hb : c.code = cc) (hlt : l.stackTraces = false) (hown : s.vm.findClass RX9 = some m.cls) (hk : (Cond.classLink RX9 ik cls).before args s = true) (hini : (Cond.initialized cls).before args s = true) (hat : ∀ w ∈ (vx_atS RX9 ic cls gx_up).filter goodWord, w.before args s = true)
    (hst : gx_strs[i]? = some (RX9, is, text)) (hG : G0 tC tE A s) (hS : va_S A s.heap H locs) (hsize : ls.size = c.maxLocals) (htab : ∀ x ∈ c.exceptionTable.toList, False) (hlocks : meth.locks = false)
    (d0 : decode cc pc = .ok (.new ik, 3)) (d3 : decode cc (pc + 3) = .ok (.dup, 1)) (d4 : decode cc (pc + 4) = .ok (.ldc_w is, 3)) (d7 : decode cc (pc + 7) = .ok (.invokespecial ic, 3)) (d10 : decode cc (pc + 10) = .ok (.athrow, 1))
    (hR : Rx cls) (h1 : 6 ≤ R.frames) (h2 : 82 ≤ R.locals) (h3 : cells + 1 ≤ R.cells) (h4 : slots + 6 ≤ R.slots) (h5 : cells + 1 ≤ mc) (h6 : slots + 6 ≤ ms) :
    W p l e R s m args below meth c H locs cells slots (vx_MQ below Qc (XX Rx A) args s mc ms A) (F0 m pc ls []) := by
  obtain ⟨a1, a2, a3, a4⟩ := ht
  obtain ⟨g1, g2, -, -, -, -, g7⟩ := hG
  obtain ⟨sa, hsa⟩ := g7.1 _ (List.mem_of_getElem? hst)
  have hca := g7.2.2.2.2.1 _ a4
  exact vx_throwSW (names := gx_up) hx hb hlt hown a1 gx_up_ok hk hini hsa (vx_hat hat a3 (vx_c (va_Nw.use rfl hca) (gx_dcl_all g7.2.2.2.2.2.2.1))) a2 g1 g2 hS hsize d0 d3 d4 d7 d10 (fun x hx => (htab x hx).elim) h1 h2 h3 h4 hlocks (xx_throw hS hR) hS.2.2 h5 h6
theorem th_s (ht : gx_thr ik ic cls) (hx : p.tables.exec = Jvm.exec) (hb : c.code = cc) (hlt : l.stackTraces = false) (hown : s.vm.findClass RX9 = some m.cls) (hk : (Cond.classLink RX9 ik cls).before args s = true) (hini : (Cond.initialized cls).before args s = true) (hat : ∀ w ∈ (vx_atS RX9 ic cls gx_up).filter goodWord, w.before args s = true)
    (hst : gx_strs[i]? = some (RX9, is, text)) (hG : G0 tC tE A s) (hS : va_S A s.heap H locs) (hsize : ls.size = c.maxLocals) (htab : ∀ x ∈ c.exceptionTable.toList, False) (hlocks : meth.locks = false)
    (d0 : decode cc pc = .ok (.new ik, 3)) (d3 : decode cc (pc + 3) = .ok (.dup, 1)) (d4 : decode cc (pc + 4) = .ok (.ldc is, 2)) (d6 : decode cc (pc + 6) = .ok (.invokespecial ic, 3)) (d9 : decode cc (pc + 9) = .ok (.athrow, 1))
    (hR : Rx cls) (h1 : 6 ≤ R.frames) (h2 : 82 ≤ R.locals) (h3 : cells + 1 ≤ R.cells) (h4 : slots + 6 ≤ R.slots) (h5 : cells + 1 ≤ mc) (h6 : slots + 6 ≤ ms) :
    W p l e R s m args below meth c H locs cells slots (vx_MQ below Qc (XX Rx A) args s mc ms A) (F0 m pc ls []) := by
  obtain ⟨a1, a2, a3, a4⟩ := ht
  obtain ⟨g1, g2, -, -, -, -, g7⟩ := hG
  obtain ⟨sa, hsa⟩ := g7.1 _ (List.mem_of_getElem? hst)
  have hca := g7.2.2.2.2.1 _ a4
  exact vx_throwS (names := gx_up) hx hb hlt hown a1 gx_up_ok hk hini hsa (vx_hat hat a3 (vx_c (va_Nw.use rfl hca) (gx_dcl_all g7.2.2.2.2.2.2.1))) a2 g1 g2 hS hsize d0 d3 d4 d6 d9 (fun x hx => (htab x hx).elim) h1 h2 h3 h4 hlocks (xx_throw hS hR) hS.2.2 h5 h6
end THR
section VXR
variable {p : Program} {l : Launch} {e : Env} {R : Room} {s : State} {m : MethodId} {args : Array Value} {below : List Frame} {meth : Method} {c : Code} {H : Heap} {locs : List Loc} {cells slots : Nat} {Q : State → Prop}
variable {mc ms : Nat} {free : Addr → Prop} {A0 A1 : Nat → Prop} {H0 : Heap} {a : Array Value} {pc : Nat} {ls : Array Slot} {st0 rest : List Value}
theorem vx_callr {S SX : Type} {post : S → Prop} {px : SX → Prop} {B : S → Nat → State → Prop} {BX : String → SX → State → Prop} {AX : Nat → Prop} (hr : vx_Run p l e R s m args below meth c H locs cells slots mc ms (F0 m pc ls st0) rest (va_Qr post B A1 a) (vx_X px BX AX) free) (hS : va_S A0 H0 H locs) (hA : ∀ q, q < H.size → A1 q → A0 q) (hf : ∀ q, free q → A0 q) (hAX : ∀ q, q < H.size → AX q → A0 q)
    (kx : ∀ (E : String) (ce : Cell) (q9 : Addr) (u : SX) (t : State) (H1 : Heap) (locs1 : List Loc), t.heap = H1 → s.vm.Alike t.vm → px u → BX E u t → H.size ≤ H1.size → (∀ q : Nat, q < H.size → ¬ AX q → H1[q]? = H[q]?) → va_S A0 H0 H1 locs1 → H1[q9]? = some ce → ce.vm = .none → s.vm.findClass E = some ce.cls → vx_W p l e R s m args below meth c H1 locs1 (cells + mc) (slots + ms) Q (F0 m pc ls rest) q9)
    (kk : ∀ (u : S) (ra : Nat) (t : State) (H1 : Heap) (locs1 : List Loc), t.heap = H1 → s.vm.Alike t.vm → post u → B u ra t → H.size ≤ H1.size → (∀ q : Nat, q < H.size → ¬ A1 q → H1[q]? = H[q]?) → va_S A0 H0 H1 locs1 → W p l e R s m args below meth c H1 locs1 (cells + mc) (slots + ms) Q (F0 m (pc + 3) ls (.ref ra :: rest))) : W p l e R s m args below meth c H locs cells slots Q (F0 m pc ls st0) := by
  intro T hT X
  rcases hr T hT X with ⟨v, st₀, t, T', L, h0, X', hL, e1, e2, ⟨⟨u, r, hv, hp, hb⟩, hF⟩, st⟩ | ⟨q, st₀, t, T', L, E, ce, h0, X', hL, e1, e2, ⟨u, hp, hb, hF⟩, hce, hcv, hcl, st⟩
  · cases hv
    obtain ⟨k1, k2, k3⟩ := vx_keep h0 e1 hS hA hf hL hF
    obtain ⟨t2, a1, b1⟩ := kk u r t T'.heap (locs ++ L) e1.symm (by rw [← e2]; exact X'.warmed.alike) hp hb k1 k2 k3 T' rfl X'
    exact ⟨t2, st t2 a1, b1⟩
  · obtain ⟨k1, k2, k3⟩ := vx_keep h0 e1 hS hAX hf hL hF
    obtain ⟨t2, a1, b1⟩ := kx E ce q u t T'.heap (locs ++ L) e1.symm (by rw [← e2]; exact X'.warmed.alike) hp hb k1 k2 k3 (by rw [e1]; exact hce) hcv hcl T' rfl X'
    exact ⟨t2, st.trans a1, b1⟩
end VXR
