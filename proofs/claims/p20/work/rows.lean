section
-- ===== PART A: goes FIRST, ahead of the names: the tables' words, and 'selects' of the private methods out of them =====
/-- a private method of a class that the tables say can be made, by its rows of tables_1 -/
def lw_okq (q : MethodName × Nat) : Prop := (q.1.cls ≠ "java/lang/invoke/MethodHandle" ∧ q.1.cls ≠ "java/lang/invoke/VarHandle") ∧ Cond.instantiable q.1.cls q.2 ∈ tables_1 ∧ Cond.privateMethod q.1 ∈ tables_1 ∧ Cond.instanceMethod q.1 ∈ tables_1
theorem lw_p0 : lw_okq (⟨"java/lang/Throwable", "fillInStackTrace", "(I)Ljava/lang/Throwable;"⟩, 6) := ⟨⟨by decide +kernel, by decide +kernel⟩, List.mem_of_getElem? (i := 99) (by decide +kernel), List.mem_of_getElem? (i := 97) (by decide +kernel), List.mem_of_getElem? (i := 98) (by decide +kernel)⟩
theorem lw_p1 : lw_okq (⟨"Windlane", "kiteAt", "(I)LWindlane$Kite;"⟩, 9) := ⟨⟨by decide +kernel, by decide +kernel⟩, List.mem_of_getElem? (i := 11) (by decide +kernel), List.mem_of_getElem? (i := 227) (by decide +kernel), List.mem_of_getElem? (i := 228) (by decide +kernel)⟩
theorem lw_p2 : lw_okq (⟨"Windlane", "borrowerAt", "(I)LWindlane$Borrower;"⟩, 9) := ⟨⟨by decide +kernel, by decide +kernel⟩, List.mem_of_getElem? (i := 11) (by decide +kernel), List.mem_of_getElem? (i := 294) (by decide +kernel), List.mem_of_getElem? (i := 295) (by decide +kernel)⟩
theorem lw_p3 : lw_okq (⟨"Windlane", "wouldCross", "(II)Z"⟩, 9) := ⟨⟨by decide +kernel, by decide +kernel⟩, List.mem_of_getElem? (i := 11) (by decide +kernel), List.mem_of_getElem? (i := 339) (by decide +kernel), List.mem_of_getElem? (i := 340) (by decide +kernel)⟩
theorem lw_p4 : lw_okq (⟨"Windlane", "clearLane", "(I)V"⟩, 9) := ⟨⟨by decide +kernel, by decide +kernel⟩, List.mem_of_getElem? (i := 11) (by decide +kernel), List.mem_of_getElem? (i := 353) (by decide +kernel), List.mem_of_getElem? (i := 354) (by decide +kernel)⟩
theorem lw_p5 : lw_okq (⟨"Windlane", "spendHour", "()V"⟩, 9) := ⟨⟨by decide +kernel, by decide +kernel⟩, List.mem_of_getElem? (i := 11) (by decide +kernel), List.mem_of_getElem? (i := 378) (by decide +kernel), List.mem_of_getElem? (i := 379) (by decide +kernel)⟩
theorem lw_p6 : lw_okq (⟨"Windlane", "countWet", "()I"⟩, 9) := ⟨⟨by decide +kernel, by decide +kernel⟩, List.mem_of_getElem? (i := 11) (by decide +kernel), List.mem_of_getElem? (i := 386) (by decide +kernel), List.mem_of_getElem? (i := 387) (by decide +kernel)⟩
theorem lw_p7 : lw_okq (⟨"Windlane", "callDownUnheld", "()V"⟩, 9) := ⟨⟨by decide +kernel, by decide +kernel⟩, List.mem_of_getElem? (i := 11) (by decide +kernel), List.mem_of_getElem? (i := 404) (by decide +kernel), List.mem_of_getElem? (i := 405) (by decide +kernel)⟩
theorem lw_p8 : lw_okq (⟨"Windlane", "callDown", "(I)V"⟩, 9) := ⟨⟨by decide +kernel, by decide +kernel⟩, List.mem_of_getElem? (i := 11) (by decide +kernel), List.mem_of_getElem? (i := 409) (by decide +kernel), List.mem_of_getElem? (i := 410) (by decide +kernel)⟩
theorem lw_p9 : lw_okq (⟨"Windlane", "callDownCrossing", "()V"⟩, 9) := ⟨⟨by decide +kernel, by decide +kernel⟩, List.mem_of_getElem? (i := 11) (by decide +kernel), List.mem_of_getElem? (i := 413) (by decide +kernel), List.mem_of_getElem? (i := 414) (by decide +kernel)⟩
theorem lw_p10 : lw_okq (⟨"Windlane", "weakerLaneOfFirstCrossing", "()I"⟩, 9) := ⟨⟨by decide +kernel, by decide +kernel⟩, List.mem_of_getElem? (i := 11) (by decide +kernel), List.mem_of_getElem? (i := 417) (by decide +kernel), List.mem_of_getElem? (i := 418) (by decide +kernel)⟩
def lw_privs_1 : List (MethodName × Nat) := [(⟨"java/lang/Throwable", "fillInStackTrace", "(I)Ljava/lang/Throwable;"⟩, 6), (⟨"Windlane", "kiteAt", "(I)LWindlane$Kite;"⟩, 9), (⟨"Windlane", "borrowerAt", "(I)LWindlane$Borrower;"⟩, 9), (⟨"Windlane", "wouldCross", "(II)Z"⟩, 9), (⟨"Windlane", "clearLane", "(I)V"⟩, 9), (⟨"Windlane", "spendHour", "()V"⟩, 9), (⟨"Windlane", "countWet", "()I"⟩, 9), (⟨"Windlane", "callDownUnheld", "()V"⟩, 9), (⟨"Windlane", "callDown", "(I)V"⟩, 9), (⟨"Windlane", "callDownCrossing", "()V"⟩, 9), (⟨"Windlane", "weakerLaneOfFirstCrossing", "()I"⟩, 9)]
theorem lw_r1 : ∀ q ∈ lw_privs_1, lw_okq q := List.forall_mem_cons.mpr ⟨lw_p0, List.forall_mem_cons.mpr ⟨lw_p1, List.forall_mem_cons.mpr ⟨lw_p2, List.forall_mem_cons.mpr ⟨lw_p3, List.forall_mem_cons.mpr ⟨lw_p4, List.forall_mem_cons.mpr ⟨lw_p5, List.forall_mem_cons.mpr ⟨lw_p6, List.forall_mem_cons.mpr ⟨lw_p7, List.forall_mem_cons.mpr ⟨lw_p8, List.forall_mem_cons.mpr ⟨lw_p9, List.forall_mem_cons.mpr ⟨lw_p10, fun _ h => absurd h List.not_mem_nil⟩⟩⟩⟩⟩⟩⟩⟩⟩⟩⟩
def lw_privs : List (MethodName × Nat) := lw_privs_1
def lw_tbl : List Cond := k2_sels lw_privs ++ tables_1
theorem lw_privs_ok : ∀ q ∈ lw_privs, lw_okq q := lw_r1

/-! ===== BEGIN words of one list among another's, by their places ===== -/
theorem goodIn_r {big : List Cond} (ws : List Cond) (ps : List Nat) (hp : ws = ps.filterMap (fun i => big[i]?)) (h : ws.all goodWord = true) : GoodIn big ws := by
  intro w hw
  have h1 := List.all_eq_true.mp h w hw
  rw [hp] at hw
  obtain ⟨i, -, hi⟩ := List.mem_filterMap.mp hw
  have hm : w ∈ big := by first | exact List.mem_of_getElem? hi | exact List.getElem?_mem hi
  exact ⟨hm, good_of_word h1⟩
theorem goodIn_app {big a b : List Cond} (ha : GoodIn big a) (hb : GoodIn big b) : GoodIn big (a ++ b) := fun w h => (List.mem_append.mp h).elim (ha w) (hb w)
theorem goodIn_ca {big a b : List Cond} {c : Cond} (ha : GoodIn big (c :: a)) (hb : GoodIn big b) : GoodIn big (c :: (a ++ b)) := fun w h => (List.mem_cons.mp h).elim (fun e => ha w (List.mem_cons.mpr (Or.inl e))) (fun h => (List.mem_append.mp h).elim (fun h => ha w (List.mem_cons.mpr (Or.inr h))) (hb w))
theorem goodIn_sub {big ws : List Cond} (hm : ∀ w ∈ ws, w ∈ big) (h : ws.all goodWord = true) : GoodIn big ws := fun w hw => ⟨hm w hw, good_of_word (List.all_eq_true.mp h w hw)⟩
/-! ===== END ===== -/

/-! ===== BEGIN exceptions that leave a method, and their catching by the caller (launches without stack traces) ===== -/
section VXA
/-! The laws vx_back, vx_callV, vx_callS, vx_callSW, vx_throw0, vx_throwS follow proofs of the library, with one case more: JvmDerived/Free/Laws.lean (Back.of_free), Shelf42/LK1.lean (callV, callS), Shelf/KitTraced.lean (throwNew0V, throwNewS). -/
/-- where a method has thrown q: the class by its name, the cell, what was written, the world -/
def vx_T (XC : String → State → State → Prop) (st : State) (q : Addr) (t : State) (mc ms : Nat) (free : Addr → Prop) : Prop :=
  ∃ (E : String) (ce : Cell) (L : List Loc), XC E st t ∧ t.heap[q]? = some ce ∧ ce.vm = .none ∧ st.vm.findClass E = some ce.cls ∧ st.WarmedH t.vm ∧ st.sameButNew ({ t with vm := st.vm } : State) L mc ms ∧ ∀ z ∈ L, free z.base
def vx_Q (Qc : Array Value → State → Outcome → State → Prop) (XC : String → State → State → Prop) (mc ms : Nat) (free : Addr → Prop) : Array Value → State → Outcome → State → Prop := fun a st o t =>
  (Qc a st o t ∧ ∃ L, FrameEnd st o t L mc ms ∧ ∀ q ∈ L, free q.base) ∨ ∃ q, o = .threw q ∧ vx_T XC st q t mc ms free
/-- a callee that returns or throws -/
def vx_Met (l : Launch) (y : MethodName) (ws : List Cond) (rm : Room) (Pc : Array Value → State → Prop) (Qc : Array Value → State → Outcome → State → Prop) (XC : String → State → State → Prop) (mc ms : Nat) (free : Addr → Prop) : Prop :=
  MetFree l y (headSpec ws rm) Pc (fun _ _ _ _ _ => True) (vx_Q Qc XC mc ms free)
def vx_Post (XC : String → State → State → Prop) (mc ms : Nat) (free : Addr → Prop) : Pt → Array Value → Addr → Pt → Prop := fun A a q B =>
  ∃ (g : JFrame) (mk : MethodId) (t : State) (L : List Loc) (E : String) (ce : Cell), B.U.heap = t.heap ∧ B.U.vm = t.vm ∧ XC E (A.U.calling g mk a) t ∧ t.heap[q]? = some ce ∧ ce.vm = .none ∧ A.U.vm.findClass E = some ce.cls ∧ B.locs = A.locs ++ L ∧ (∀ z ∈ L, free z.base) ∧ B.cells = A.cells + mc ∧ B.slots = A.slots + ms
def vx_Back (l : Launch) (R : Room) (p : Program) (e : Env) (below : List Frame) (s : State) (sargs : Array Value) (y : MethodName) (len W9 : Nat)
    (Pre : Pt → Array Value → Prop) (Post : Pt → Array Value → Option Value → Pt → Prop) (PostX : Pt → Array Value → Addr → Pt → Prop) : Prop :=
  ∀ (m : MethodId) (meth : Method) (c : Code) (A : Pt) (g : JFrame) (ig : Instr) (mk : MethodId) (a : Array Value),
    Stand p l e R s m sargs below meth c A.U A.locs A.cells A.slots → g.method = m → g.locals.size = c.maxLocals → decode c.code g.pc = .ok (ig, len) →
    2 * g.monitorRoom + (g.stack.map fun v => v.category).sum ≤ W9 → A.U.methodNamed? y = some mk → Pre A a →
    (∃ (v : Option Value) (B : Pt), Stand p l e R s m sargs below meth c B.U B.locs B.cells B.slots ∧ Post A a v B ∧
      Steps p.tables e below (doInvoke e (A.U.setTop g) [] mk a).1 (B.U.setTop { g with pc := g.pc + len, stack := v.toList ++ g.stack })) ∨
    (∃ (q : Addr) (B : Pt), Stand p l e R s m sargs below meth c B.U B.locs B.cells B.slots ∧ PostX A a q B ∧
      Steps p.tables e below (doInvoke e (A.U.setTop g) [] mk a).1 ((B.U.setTop g).pushFrame (.throwing q)))
section Payer
variable {l : Launch} {R : Room} {p : Program} {e : Env} {below : List Frame} {s : State} {sargs : Array Value} {y : MethodName} {len W9 : Nat}
theorem vx_back {ws : List Cond} {rm : Room} {Pc : Array Value → State → Prop} {Qc : Array Value → State → Outcome → State → Prop} {XC : String → State → State → Prop} {mc ms : Nat} {free : Addr → Prop} {bytes : ByteArray} {maxL : Nat} {ret : Option FieldType}
    (hM : vx_Met l y ws rm Pc Qc XC mc ms free) (hblind : FrameBlind Pc) (hrc : rm.cells = mc) (hrs : rm.slots = ms)
    (hframes : rm.frames + 1 ≤ R.frames) (hlocals : W9 + (maxL + 11) + rm.locals ≤ R.locals)
    (hws : ∀ w ∈ ws, ∀ a' U, s.WarmedH U.vm → w.before a' U = true) (hcode : Cond.code y bytes maxL ret ∈ ws) (hinit : ∀ a' U, s.WarmedH U.vm → (Cond.initialized y.cls).before a' U = true) :
    vx_Back l R p e below s sargs y len W9 (PreOf R mc ms Pc) (PostOf Qc mc ms free) (vx_Post XC mc ms free) := by
  intro m meth c A g ig mk a X hg hsize hdg hW hn hp
  have h1 : (headSpec ws rm).pre.before a A.U = true := atoms_intro fun w hw => hws w hw _ _ X.warmed
  have h2 : (Cond.code y bytes maxL ret).before a A.U = true := hws _ hcode _ _ X.warmed
  have h3 : (Cond.initialized y.cls).before a A.U = true := hinit _ _ X.warmed
  have h4 : A.cells + (headSpec ws rm).room.cells ≤ R.cells := by rw [show (headSpec ws rm).room.cells = mc from hrc]; exact hp.1
  have h5 : A.slots + (headSpec ws rm).room.slots ≤ R.slots := by rw [show (headSpec ws rm).room.slots = ms from hrs]; exact hp.2.1
  have hPc : Pc a (A.U.calling g mk a) := hblind _ _ _ _ hp.2.2
  obtain ⟨U, Ls, c0, s0⟩ := A
  dsimp only [Pt.U, Pt.locs, Pt.cells, Pt.slots] at h1 h2 h3 h4 h5 X hn hPc ⊢
  obtain ⟨methY, cY, hmY, hcY, -, hlY, -, -, -, -⟩ := Cond.code_spec hn h2
  obtain ⟨kY, hkY, -⟩ := className_of_methodNamed hn
  have hinitY : kY.init = .initialized := Cond.initialized_spec (findClass_of_methodNamed hn) hkY h3
  have h : At U g.method c below := by rw [hg]; exact X.here
  have hlocals9 : W9 + (maxL + 11) + (headSpec ws rm).room.locals ≤ R.locals := hlocals
  have happ : (headSpec ws rm).appliesLoose y e.platform (U.calling g mk a) = true :=
    Spec.appliesLoose_calling (g := g) h hdg hn hkY hinitY
      (X.room_calling (g := g) (R' := (headSpec ws rm).room) hsize hmY hcY hframes (by rw [hlY]; omega) h4 h5) h1
  obtain ⟨mid, hmid⟩ := h.above
  have hfr : (U.setTop g).frames = (.java g :: mid) ++ below := by rw [State.frames_setTop' g h.top, hmid]; rfl
  obtain ⟨o, s₂, hsteps, -, hend, hq⟩ := Steps.callFree hM p X.admits X.cas X.clock (acts := []) hfr happ hPc trivial
  have hq' : vx_Q Qc XC mc ms free a (U.calling g mk a) o s₂ := hq
  rw [State.frames_setTop' g h.top] at hend
  obtain ⟨g₀, hg0⟩ := Option.isSome_iff_exists.mp h.top
  obtain ⟨r, hr⟩ := State.topJava?_eq_some.mp hg0
  have hr' : (({ U with heap := s₂.heap, slotsUsed := s₂.slotsUsed } : State).setVm s₂.vm).frames = .java g₀ :: r := hr
  rcases hq' with ⟨hqc, L, hfe, hL⟩ | ⟨q, rfl, E, ce, L, hx, hce, hcv, hcl, hW₂, hsm, hL⟩
  · obtain ⟨⟨v, rfl⟩, hW₂, e2, q2, q3, q4, q5, q6⟩ := id hfe
    have e3 : s₂ = ({ (U.calling g mk a).setFrames s₂.frames with heap := s₂.heap, slotsUsed := s₂.slotsUsed } : State).setVm s₂.vm := by
      have : s₂ = ({ s₂ with vm := (U.calling g mk a).vm } : State).setVm s₂.vm := rfl
      rw [e2] at this
      exact this
    obtain ⟨c₂, i₂, len₂, hc₂, hd₂, hf₂⟩ := hend
    have hW' : U.WarmedH s₂.vm := hW₂
    have hcc : c₂ = c := by
      have h1 : s₂.code? g.method = U.code? g.method := by
        rw [State.code?_eq, State.code?_eq, hW'.alike.method?]
      exact Option.some.inj (hc₂.symm.trans (h1.trans h.code))
    subst hcc
    have hlen : len₂ = len := by rw [hdg] at hd₂; cases hd₂; rfl
    subst hlen
    have hs₂ : s₂ = (({ U with heap := s₂.heap, slotsUsed := s₂.slotsUsed } : State).setVm s₂.vm).setTop { g with pc := g.pc + len₂, stack := v.toList ++ g.stack } := by
      refine e3.trans ?_
      rw [hf₂, State.calling_eq h.top, State.setFrames_setFrames, State.setTop_of_frames _ hr', hr]
      rfl
    have hsame : U.sameButNew ({ U with heap := s₂.heap, slotsUsed := s₂.slotsUsed } : State) L mc ms := by
      refine ⟨?_, q2, q3, q4, q5, q6⟩
      obtain ⟨t, ht, -⟩ := State.frames_cons hr
      show ({ U with heap := s₂.heap, slotsUsed := s₂.slotsUsed } : State) = { U.setFrames U.frames with heap := s₂.heap, slotsUsed := s₂.slotsUsed }
      rw [State.setFrames_self ht]
    subst hg
    refine Or.inl ⟨v, ⟨(({ U with heap := s₂.heap, slotsUsed := s₂.slotsUsed } : State).setVm s₂.vm), Ls ++ L, c0 + mc, s0 + ms⟩,
      ⟨X.admits, X.cas, X.clock, X.frames, X.room, X.hears, X.method, X.code, (X.here.setHeapUsed s₂.heap s₂.slotsUsed).setVm hW'.alike, X.tail, State.WarmedH.trans X.warmed hW', X.limits, X.bytes, X.same.trans (hsame.setVm s.vm)⟩,
      ⟨g, mk, s₂, L, rfl, rfl, hqc, rfl, hL, rfl, rfl⟩, ?_⟩
    show Steps p.tables e below _ ((({ U with heap := s₂.heap, slotsUsed := s₂.slotsUsed } : State).setVm s₂.vm).setTop { g with pc := g.pc + len₂, stack := v.toList ++ g.stack })
    rw [← hs₂]
    exact hsteps
  · obtain ⟨e2, q2, q3, q4, q5, q6⟩ := id hsm
    have e3 : s₂ = ({ (U.calling g mk a).setFrames s₂.frames with heap := s₂.heap, slotsUsed := s₂.slotsUsed } : State).setVm s₂.vm := by
      have : s₂ = ({ s₂ with vm := (U.calling g mk a).vm } : State).setVm s₂.vm := rfl
      rw [e2] at this
      exact this
    have hf₂ : s₂.frames = .throwing q :: .java g :: U.frames.tail := hend
    have hW' : U.WarmedH s₂.vm := hW₂
    have hs₂ : s₂ = ((({ U with heap := s₂.heap, slotsUsed := s₂.slotsUsed } : State).setVm s₂.vm).setTop g).pushFrame (.throwing q) := by
      refine e3.trans ?_
      rw [hf₂, State.calling_eq h.top, State.setFrames_setFrames, State.pushFrame, State.frames_setTop _ hr', State.setTop_of_frames _ hr', State.setFrames_setFrames, hr]
      rfl
    have hsame : U.sameButNew ({ U with heap := s₂.heap, slotsUsed := s₂.slotsUsed } : State) L mc ms := by
      refine ⟨?_, q2, q3, q4, q5, q6⟩
      obtain ⟨t, ht, -⟩ := State.frames_cons hr
      show ({ U with heap := s₂.heap, slotsUsed := s₂.slotsUsed } : State) = { U.setFrames U.frames with heap := s₂.heap, slotsUsed := s₂.slotsUsed }
      rw [State.setFrames_self ht]
    subst hg
    refine Or.inr ⟨q, ⟨(({ U with heap := s₂.heap, slotsUsed := s₂.slotsUsed } : State).setVm s₂.vm), Ls ++ L, c0 + mc, s0 + ms⟩,
      ⟨X.admits, X.cas, X.clock, X.frames, X.room, X.hears, X.method, X.code, (X.here.setHeapUsed s₂.heap s₂.slotsUsed).setVm hW'.alike, X.tail, State.WarmedH.trans X.warmed hW', X.limits, X.bytes, X.same.trans (hsame.setVm s.vm)⟩,
      ⟨g, mk, s₂, L, E, ce, rfl, rfl, hx, hce, hcv, hcl, rfl, hL, rfl, rfl⟩, ?_⟩
    show Steps p.tables e below _ (((({ U with heap := s₂.heap, slotsUsed := s₂.slotsUsed } : State).setVm s₂.vm).setTop g).pushFrame (.throwing q))
    rw [← hs₂]
    exact hsteps
end Payer
section Calls
variable {p : Program} {l : Launch} {e : Env} {R : Room} {s : State} {m : MethodId} {args : Array Value} {below : List Frame} {meth : Method} {c : Code} {T : State} {locs : List Loc} {cells slots : Nat}
theorem vx_callV (X : Stand p l e R s m args below meth c T locs cells slots) (hexec : p.tables.exec = Jvm.exec) {own C : String} {index : Nat} {y : MethodName} {bytes : ByteArray} {maxL : Nat} {ret : Option FieldType}
    (hown : s.vm.findClass own = some m.cls) (hlink : (Cond.methodLink own index y).before args s = true) (hinst : (Cond.instanceMethod y).before args s = true) (hsel : (Cond.selects C y y).before args s = true)
    (hcode : (Cond.code y bytes maxL ret).before args s = true) (hy : y.cls ≠ "java/lang/invoke/MethodHandle" ∧ y.cls ≠ "java/lang/invoke/VarHandle")
    {W9 : Nat} {Pre : Pt → Array Value → Prop} {Post : Pt → Array Value → Option Value → Pt → Prop} {PostX : Pt → Array Value → Addr → Pt → Prop} (hK : vx_Back l R p e below s args y 3 W9 Pre Post PostX)
    {b : Addr} {cellB : Cell} (hcell : T.heap[b]? = some cellB) (hobj : cellB.vm.isStatics = false) (hcls : s.vm.findClass C = some cellB.cls)
    {g : JFrame} (hg : g.method = m) (hsize : g.locals.size = c.maxLocals) {argsL rest : List Value} (hlen : ∀ sig, parseMethodDescriptor y.desc = some sig → argsL.length = sig.parameters.length)
    (hstack : g.stack = argsL.reverse ++ .ref b :: rest) (hW : 2 * g.monitorRoom + (rest.map fun v => v.category).sum ≤ W9) (hdg : decode c.code g.pc = .ok (.invokevirtual index, 3))
    (hpre : ∀ vm₁, s.WarmedH vm₁ → Pre ⟨T.setVm vm₁, locs, cells, slots⟩ (Value.ref b :: argsL).toArray) :
    (∃ (v : Option Value) (vm₁ : Vm) (B : Pt), s.WarmedH vm₁ ∧ Stand p l e R s m args below meth c B.U B.locs B.cells B.slots ∧ Post ⟨T.setVm vm₁, locs, cells, slots⟩ (Value.ref b :: argsL).toArray v B ∧
      ∀ target, Steps p.tables e below (B.U.setTop { g with pc := g.pc + 3, stack := v.toList ++ rest }) target → Steps p.tables e below (T.setTop g) target) ∨
    (∃ (q : Addr) (vm₁ : Vm) (B : Pt), s.WarmedH vm₁ ∧ Stand p l e R s m args below meth c B.U B.locs B.cells B.slots ∧ PostX ⟨T.setVm vm₁, locs, cells, slots⟩ (Value.ref b :: argsL).toArray q B ∧
      Steps p.tables e below (T.setTop g) ((B.U.setTop { g with stack := rest }).pushFrame (.throwing q))) := by
  obtain ⟨mk, methM, hnamed, hmethM, hstM, habM⟩ := Cond.instanceMethod_spec hinst
  obtain ⟨methM', cM, hmethM', -, -, -, -, -, -, hsigM⟩ := Cond.code_spec hnamed hcode
  cases hmethM.symm.trans hmethM'
  obtain ⟨c2, r2, m2, q1, q2, q3, q4, kP, hkP, hkPi⟩ := Cond.selects_spec hsel
  cases hcls.symm.trans q1
  cases (State.methodFound?_of_named hnamed hy).symm.trans q2
  cases hnamed.symm.trans q3
  have hselP : selectMethod e.platform s.vm cellB.cls mk = .method mk := by rw [Launch.admits_selectMethod X.admits]; exact q4
  obtain ⟨vm₁, X₁, hstep₁⟩ := X.invokevirtual hexec hown hlink hnamed hmethM hstM hkP hkPi hy (a := b) (cell := cellB) hcell
    (fun z h => by rw [h] at hobj; cases hobj) hselP hmethM habM hkP hkPi (g := g) hg (argsL := argsL) (rest := rest) (hlen _ hsigM) hstack hdg
  rcases hK m meth c ⟨T.setVm vm₁, locs, cells, slots⟩ { g with stack := rest } (.invokevirtual index) mk (Value.ref b :: argsL).toArray X₁ hg hsize hdg hW (X₁.named hnamed) (hpre vm₁ X₁.warmed) with ⟨v, B, X', hpost, hsteps⟩ | ⟨q, B, X', hpost, hsteps⟩
  · exact Or.inl ⟨v, vm₁, B, X₁.warmed, X', hpost, fun target h => hstep₁ _ fun acts => by rw [doInvoke_state]; exact hsteps.trans h⟩
  · exact Or.inr ⟨q, vm₁, B, X₁.warmed, X', hpost, hstep₁ _ fun acts => by rw [doInvoke_state]; exact hsteps⟩
theorem vx_callS (X : Stand p l e R s m args below meth c T locs cells slots) (hexec : p.tables.exec = Jvm.exec) {own : String} {index : Nat} {y : MethodName} {bytes : ByteArray} {maxL : Nat} {ret : Option FieldType}
    (hown : s.vm.findClass own = some m.cls) (hlink : (Cond.methodLink own index y).before args s = true) (hstat : (Cond.static y).before args s = true) (hinit : (Cond.initialized y.cls).before args s = true)
    (hcode : (Cond.code y bytes maxL ret).before args s = true) (hy : y.cls ≠ "java/lang/invoke/MethodHandle" ∧ y.cls ≠ "java/lang/invoke/VarHandle")
    {W9 : Nat} {Pre : Pt → Array Value → Prop} {Post : Pt → Array Value → Option Value → Pt → Prop} {PostX : Pt → Array Value → Addr → Pt → Prop} (hK : vx_Back l R p e below s args y 3 W9 Pre Post PostX)
    {g : JFrame} (hg : g.method = m) (hsize : g.locals.size = c.maxLocals) {argsL rest : List Value} (hlen : ∀ sig, parseMethodDescriptor y.desc = some sig → argsL.length = sig.parameters.length)
    (hstack : g.stack = argsL.reverse ++ rest) (hW : 2 * g.monitorRoom + (rest.map fun v => v.category).sum ≤ W9) (hdg : decode c.code g.pc = .ok (.invokestatic index, 3))
    (hpre : ∀ vm₁, s.WarmedH vm₁ → Pre ⟨T.setVm vm₁, locs, cells, slots⟩ argsL.toArray) :
    (∃ (v : Option Value) (vm₁ : Vm) (B : Pt), s.WarmedH vm₁ ∧ Stand p l e R s m args below meth c B.U B.locs B.cells B.slots ∧ Post ⟨T.setVm vm₁, locs, cells, slots⟩ argsL.toArray v B ∧
      ∀ target, Steps p.tables e below (B.U.setTop { g with pc := g.pc + 3, stack := v.toList ++ rest }) target → Steps p.tables e below (T.setTop g) target) ∨
    (∃ (q : Addr) (vm₁ : Vm) (B : Pt), s.WarmedH vm₁ ∧ Stand p l e R s m args below meth c B.U B.locs B.cells B.slots ∧ PostX ⟨T.setVm vm₁, locs, cells, slots⟩ argsL.toArray q B ∧
      Steps p.tables e below (T.setTop g) ((B.U.setTop { g with stack := rest }).pushFrame (.throwing q))) := by
  obtain ⟨mk, hnamed⟩ := Cond.code_named hcode
  obtain ⟨methM, cM, hmethM, -, -, -, -, -, -, hsigM⟩ := Cond.code_spec hnamed hcode
  have hstatic : methM.isStatic = true := Cond.static_spec hnamed hmethM hstat
  obtain ⟨kP, hkP, -⟩ := className_of_methodNamed hnamed
  have hinitP : kP.init = .initialized := Cond.initialized_spec (findClass_of_methodNamed hnamed) hkP hinit
  obtain ⟨vm₁, X₁, hstep₁⟩ := X.invokestatic hexec hown hlink hnamed hmethM hstatic hkP hinitP hy (g := g) hg (argsL := argsL) (rest := rest) (hlen _ hsigM) hstack hdg
  rcases hK m meth c ⟨T.setVm vm₁, locs, cells, slots⟩ { g with stack := rest } (.invokestatic index) mk argsL.toArray X₁ hg hsize hdg hW (X₁.named hnamed) (hpre vm₁ X₁.warmed) with ⟨v, B, X', hpost, hsteps⟩ | ⟨q, B, X', hpost, hsteps⟩
  · exact Or.inl ⟨v, vm₁, B, X₁.warmed, X', hpost, fun target h => hstep₁ _ fun acts => by rw [doInvoke_state]; exact hsteps.trans h⟩
  · exact Or.inr ⟨q, vm₁, B, X₁.warmed, X', hpost, hstep₁ _ fun acts => by rw [doInvoke_state]; exact hsteps⟩
end Calls
theorem vx_cls {s : State} {T : State} {vm₁ : Vm} {E : String} {k : ClassId} (hW : s.WarmedH vm₁) (h : (T.setVm vm₁).vm.findClass E = some k) : s.vm.findClass E = some k := by
  have h1 : vm₁.findClass E = some k := h
  rw [hW.alike.findClass] at h1
  exact h1
/-- the method's frame g, with q thrown over it -/
def vx_W (p : Program) (l : Launch) (e : Env) (R : Room) (s : State) (m : MethodId) (args : Array Value) (below : List Frame) (meth : Method) (c : Code) (H : Heap) (locs : List Loc) (cells slots : Nat) (Q : State → Prop) (g : JFrame) (q : Addr) : Prop :=
  ∀ T : State, T.heap = H → Stand p l e R s m args below meth c T locs cells slots → ∃ t, Steps p.tables e below ((T.setTop g).pushFrame (.throwing q)) t ∧ Q t
def vx_Run (p : Program) (l : Launch) (e : Env) (R : Room) (s : State) (m : MethodId) (args : Array Value) (below : List Frame) (meth : Method) (c : Code) (H : Heap) (locs : List Loc) (cells slots mc ms : Nat) (g : JFrame) (rest : List Value) (Qa : State → Outcome → State → Prop) (XC : String → State → State → Prop) (free : Addr → Prop) : Prop :=
  ∀ T : State, T.heap = H → Stand p l e R s m args below meth c T locs cells slots →
    (∃ (v : Option Value) (st₀ t T' : State) (L : List Loc), st₀.heap = H ∧ Stand p l e R s m args below meth c T' (locs ++ L) (cells + mc) (slots + ms) ∧ (∀ q ∈ L, free q.base) ∧ T'.heap = t.heap ∧ T'.vm = t.vm ∧ Qa st₀ (.returned v) t ∧
      Goes p e below T g T' { g with pc := g.pc + 3, stack := v.toList ++ rest }) ∨
    (∃ (q : Addr) (st₀ t T' : State) (L : List Loc) (E : String) (ce : Cell), st₀.heap = H ∧ Stand p l e R s m args below meth c T' (locs ++ L) (cells + mc) (slots + ms) ∧ (∀ z ∈ L, free z.base) ∧ T'.heap = t.heap ∧ T'.vm = t.vm ∧ XC E st₀ t ∧ t.heap[q]? = some ce ∧ ce.vm = .none ∧ s.vm.findClass E = some ce.cls ∧
      Steps p.tables e below (T.setTop g) ((T'.setTop { g with stack := rest }).pushFrame (.throwing q)))
def vx_X {S : Type} (px : S → Prop) (B : String → S → State → Prop) (A : Nat → Prop) : String → State → State → Prop := fun E st t => ∃ u : S, px u ∧ B E u t ∧ va_F A st t
section Runs
variable {p : Program} {l : Launch} {e : Env} {R : Room} {s : State} {m : MethodId} {args : Array Value} {below : List Frame} {meth : Method} {c : Code} {H : Heap} {locs : List Loc} {cells slots : Nat}
variable {y : MethodName} {bytes cc : ByteArray} {maxL nL mc ms n index : Nat} {ret : Option FieldType} {ws : List Cond} {rm : Room} {Pc : Array Value → State → Prop} {Qc : Array Value → State → Outcome → State → Prop} {XC : String → State → State → Prop} {free : Addr → Prop} {Ts : List Cond} {own C : String} {b : Addr} {As rest : List Value} {g : JFrame}
theorem vx_callBack (cb : CallB R s args own index y bytes maxL ret ws rm mc ms n) (hM : vx_Met l y ws rm Pc Qc XC mc ms free) (hbl : FrameBlind Pc) : vx_Back l R p e below s args y 3 8 (PreOf R mc ms Pc) (PostOf Qc mc ms free) (vx_Post XC mc ms free) := by
  obtain ⟨hrc, hrs, hfr, hlo, hws, hcw, -, hini, -⟩ := cb
  exact vx_back (bytes := bytes) (maxL := maxL) (ret := ret) hM hbl hrc hrs hfr hlo hws hcw (fun a' U hW => word_at hW (Or.inl (by first | rfl | simp [Cond.onTables, Cond.keeps, Cond.steady])) hini)
theorem vx_runV (S : CallFix p m c cc nL s args Ts own) (hM : vx_Met l y ws rm Pc Qc XC mc ms free) (cw : CallW R s args own C index y bytes maxL ret ws rm mc ms n) (hp : PreV s H C b Pc As)
    (hg : g.method = m) (hn : As.length = n) (hsize : g.locals.size = nL) (hstack : g.stack = As.reverse ++ .ref b :: rest) (hW : 2 * g.monitorRoom + (rest.map fun v => v.category).sum ≤ 8) (hdg : decode cc g.pc = .ok (.invokevirtual index, 3)) (hf : cells + mc ≤ R.cells ∧ slots + ms ≤ R.slots) :
    vx_Run p l e R s m args below meth c H locs cells slots mc ms g rest (Qc (Value.ref b :: As).toArray) XC free := by
  have hK : vx_Back l R p e below s args y 3 8 (PreOf R mc ms Pc) (PostOf Qc mc ms free) (vx_Post XC mc ms free) := vx_callBack cw.1 hM hp.1
  obtain ⟨⟨-, -, -, -, -, -, hcode, -, hy, hlen, hl⟩, hin, hse⟩ := cw
  obtain ⟨hx, hb, hml, ho, -⟩ := S
  obtain ⟨-, ⟨cellB, hcB, hoB, hclB⟩, hPc⟩ := hp
  intro T hT X
  rcases vx_callV X hx (C := C) (bytes := bytes) (maxL := maxL) (ret := ret) ho hl hin hse hcode hy hK (by rw [hT]; exact hcB) hoB hclB hg (hsize.trans hml.symm) (argsL := As) (rest := rest) (fun sig h => hn.trans (hlen sig h)) hstack hW (by rw [hb]; exact hdg)
    (fun vm₁ hW₁ => ⟨hf.1, hf.2, hPc (T.setVm vm₁) hT hW₁⟩) with ⟨v, vm₁, ⟨U', l2, c2, s2⟩, hW₁, X', ⟨g', mk, t, L, e1, e2, hq, h1, hL, h2, h3⟩, st⟩ | ⟨q, vm₁, ⟨U', l2, c2, s2⟩, hW₁, X', ⟨g', mk, t, L, E, ce, e1, e2, hq, hce, hcv, hcl, h1, hL, h2, h3⟩, st⟩
  · dsimp only [Pt.U, Pt.locs, Pt.cells, Pt.slots] at X' e1 e2 h1 h2 h3 st
    subst h1; subst h2; subst h3
    exact Or.inl ⟨v, (T.setVm vm₁).calling g' mk (Value.ref b :: As).toArray, t, U', L, hT, X', hL, e1, e2, hq, st⟩
  · dsimp only [Pt.U, Pt.locs, Pt.cells, Pt.slots] at X' e1 e2 h1 h2 h3 st hcl
    subst h1; subst h2; subst h3
    exact Or.inr ⟨q, (T.setVm vm₁).calling g' mk (Value.ref b :: As).toArray, t, U', L, E, ce, hT, X', hL, e1, e2, hq, hce, hcv, vx_cls hW₁ hcl, st⟩
theorem vx_runS (S : CallFix p m c cc nL s args Ts own) (hM : vx_Met l y ws rm Pc Qc XC mc ms free) (cw : CallB R s args own index y bytes maxL ret ws rm mc ms n ∧ (Cond.static y).before args s = true) (hp : PreS s H Pc As)
    (hg : g.method = m) (hn : As.length = n) (hsize : g.locals.size = nL) (hstack : g.stack = As.reverse ++ rest) (hW : 2 * g.monitorRoom + (rest.map fun v => v.category).sum ≤ 8) (hdg : decode cc g.pc = .ok (.invokestatic index, 3)) (hf : cells + mc ≤ R.cells ∧ slots + ms ≤ R.slots) :
    vx_Run p l e R s m args below meth c H locs cells slots mc ms g rest (Qc As.toArray) XC free := by
  have hK : vx_Back l R p e below s args y 3 8 (PreOf R mc ms Pc) (PostOf Qc mc ms free) (vx_Post XC mc ms free) := vx_callBack cw.1 hM hp.1
  obtain ⟨⟨-, -, -, -, -, -, hcode, hini, hy, hlen, hl⟩, hstt⟩ := cw
  obtain ⟨hx, hb, hml, ho, -⟩ := S
  intro T hT X
  rcases vx_callS X hx (bytes := bytes) (maxL := maxL) (ret := ret) ho hl hstt hini hcode hy hK hg (hsize.trans hml.symm) (argsL := As) (rest := rest) (fun sig h => hn.trans (hlen sig h)) hstack hW (by rw [hb]; exact hdg)
    (fun vm₁ hW₁ => ⟨hf.1, hf.2, hp.2 (T.setVm vm₁) hT hW₁⟩) with ⟨v, vm₁, ⟨U', l2, c2, s2⟩, hW₁, X', ⟨g', mk, t, L, e1, e2, hq, h1, hL, h2, h3⟩, st⟩ | ⟨q, vm₁, ⟨U', l2, c2, s2⟩, hW₁, X', ⟨g', mk, t, L, E, ce, e1, e2, hq, hce, hcv, hcl, h1, hL, h2, h3⟩, st⟩
  · dsimp only [Pt.U, Pt.locs, Pt.cells, Pt.slots] at X' e1 e2 h1 h2 h3 st
    subst h1; subst h2; subst h3
    exact Or.inl ⟨v, (T.setVm vm₁).calling g' mk As.toArray, t, U', L, hT, X', hL, e1, e2, hq, st⟩
  · dsimp only [Pt.U, Pt.locs, Pt.cells, Pt.slots] at X' e1 e2 h1 h2 h3 st hcl
    subst h1; subst h2; subst h3
    exact Or.inr ⟨q, (T.setVm vm₁).calling g' mk As.toArray, t, U', L, E, ce, hT, X', hL, e1, e2, hq, hce, hcv, vx_cls hW₁ hcl, st⟩
end Runs
section Rows
variable {p : Program} {l : Launch} {e : Env} {R : Room} {s : State} {m : MethodId} {args : Array Value} {below : List Frame} {meth : Method} {c : Code} {H : Heap} {locs : List Loc} {cells slots : Nat} {Q : State → Prop}
variable {mc ms : Nat} {free : Addr → Prop} {A0 A1 : Nat → Prop} {H0 : Heap} {a : Array Value} {pc : Nat} {ls : Array Slot} {st0 rest : List Value}
theorem vx_keep {st₀ t T' : State} {L : List Loc} (h0 : st₀.heap = H) (e1 : T'.heap = t.heap) (hS : va_S A0 H0 H locs) (hA : ∀ q, q < H.size → A1 q → A0 q) (hf : ∀ q, free q → A0 q) (hL : ∀ q ∈ L, free q.base) (hF : va_F A1 st₀ t) :
    H.size ≤ T'.heap.size ∧ (∀ q : Nat, q < H.size → ¬ A1 q → T'.heap[q]? = H[q]?) ∧ va_S A0 H0 T'.heap (locs ++ L) := by
  obtain ⟨hz, hk⟩ := hF
  rw [h0] at hz hk
  exact ⟨by rw [e1]; exact hz, fun q h1 h2 => by rw [e1]; exact hk q h1 h2,
    ⟨Nat.le_trans hS.1 (by rw [e1]; exact hz), fun q h1 h2 => by rw [e1, hk q (Nat.lt_of_lt_of_le h1 hS.1) (fun z => h2 (hA q (Nat.lt_of_lt_of_le h1 hS.1) z))]; exact hS.2.1 q h1 h2, fun q hq => by
      rcases List.mem_append.mp hq with h | h
      · exact hS.2.2 q h
      · exact hf _ (hL q h)⟩⟩
theorem vx_calli {S SX : Type} {post : Int32 → S → Prop} {px : SX → Prop} {B : S → State → Prop} {BX : String → SX → State → Prop} {AX : Nat → Prop} (hr : vx_Run p l e R s m args below meth c H locs cells slots mc ms (F0 m pc ls st0) rest (va_Qi post B A1 a) (vx_X px BX AX) free) (hS : va_S A0 H0 H locs) (hA : ∀ q, q < H.size → A1 q → A0 q) (hf : ∀ q, free q → A0 q) (hAX : ∀ q, q < H.size → AX q → A0 q)
    (kx : ∀ (E : String) (ce : Cell) (q9 : Addr) (u : SX) (t : State) (H1 : Heap) (locs1 : List Loc), t.heap = H1 → s.vm.Alike t.vm → px u → BX E u t → H.size ≤ H1.size → (∀ q : Nat, q < H.size → ¬ AX q → H1[q]? = H[q]?) → va_S A0 H0 H1 locs1 → H1[q9]? = some ce → ce.vm = .none → s.vm.findClass E = some ce.cls → vx_W p l e R s m args below meth c H1 locs1 (cells + mc) (slots + ms) Q (F0 m pc ls rest) q9)
    (kk : ∀ (r : Int32) (u : S) (t : State) (H1 : Heap) (locs1 : List Loc), t.heap = H1 → s.vm.Alike t.vm → post r u → B u t → H.size ≤ H1.size → (∀ q : Nat, q < H.size → ¬ A1 q → H1[q]? = H[q]?) → va_S A0 H0 H1 locs1 → W p l e R s m args below meth c H1 locs1 (cells + mc) (slots + ms) Q (F0 m (pc + 3) ls (.int r :: rest))) : W p l e R s m args below meth c H locs cells slots Q (F0 m pc ls st0) := by
  intro T hT X
  rcases hr T hT X with ⟨v, st₀, t, T', L, h0, X', hL, e1, e2, ⟨⟨r, u, hv, hp, hb⟩, hF⟩, st⟩ | ⟨q, st₀, t, T', L, E, ce, h0, X', hL, e1, e2, ⟨u, hp, hb, hF⟩, hce, hcv, hcl, st⟩
  · cases hv
    obtain ⟨k1, k2, k3⟩ := vx_keep h0 e1 hS hA hf hL hF
    obtain ⟨t2, a1, b1⟩ := kk r u t T'.heap (locs ++ L) e1.symm (by rw [← e2]; exact X'.warmed.alike) hp hb k1 k2 k3 T' rfl X'
    exact ⟨t2, st t2 a1, b1⟩
  · obtain ⟨k1, k2, k3⟩ := vx_keep h0 e1 hS hAX hf hL hF
    obtain ⟨t2, a1, b1⟩ := kx E ce q u t T'.heap (locs ++ L) e1.symm (by rw [← e2]; exact X'.warmed.alike) hp hb k1 k2 k3 (by rw [e1]; exact hce) hcv hcl T' rfl X'
    exact ⟨t2, st.trans a1, b1⟩
theorem vx_calll {S SX : Type} {post : Int64 → S → Prop} {px : SX → Prop} {B : S → State → Prop} {BX : String → SX → State → Prop} {AX : Nat → Prop} (hr : vx_Run p l e R s m args below meth c H locs cells slots mc ms (F0 m pc ls st0) rest (va_Ql post B A1 a) (vx_X px BX AX) free) (hS : va_S A0 H0 H locs) (hA : ∀ q, q < H.size → A1 q → A0 q) (hf : ∀ q, free q → A0 q) (hAX : ∀ q, q < H.size → AX q → A0 q)
    (kx : ∀ (E : String) (ce : Cell) (q9 : Addr) (u : SX) (t : State) (H1 : Heap) (locs1 : List Loc), t.heap = H1 → s.vm.Alike t.vm → px u → BX E u t → H.size ≤ H1.size → (∀ q : Nat, q < H.size → ¬ AX q → H1[q]? = H[q]?) → va_S A0 H0 H1 locs1 → H1[q9]? = some ce → ce.vm = .none → s.vm.findClass E = some ce.cls → vx_W p l e R s m args below meth c H1 locs1 (cells + mc) (slots + ms) Q (F0 m pc ls rest) q9)
    (kk : ∀ (r : Int64) (u : S) (t : State) (H1 : Heap) (locs1 : List Loc), t.heap = H1 → s.vm.Alike t.vm → post r u → B u t → H.size ≤ H1.size → (∀ q : Nat, q < H.size → ¬ A1 q → H1[q]? = H[q]?) → va_S A0 H0 H1 locs1 → W p l e R s m args below meth c H1 locs1 (cells + mc) (slots + ms) Q (F0 m (pc + 3) ls (.long r :: rest))) : W p l e R s m args below meth c H locs cells slots Q (F0 m pc ls st0) := by
  intro T hT X
  rcases hr T hT X with ⟨v, st₀, t, T', L, h0, X', hL, e1, e2, ⟨⟨r, u, hv, hp, hb⟩, hF⟩, st⟩ | ⟨q, st₀, t, T', L, E, ce, h0, X', hL, e1, e2, ⟨u, hp, hb, hF⟩, hce, hcv, hcl, st⟩
  · cases hv
    obtain ⟨k1, k2, k3⟩ := vx_keep h0 e1 hS hA hf hL hF
    obtain ⟨t2, a1, b1⟩ := kk r u t T'.heap (locs ++ L) e1.symm (by rw [← e2]; exact X'.warmed.alike) hp hb k1 k2 k3 T' rfl X'
    exact ⟨t2, st t2 a1, b1⟩
  · obtain ⟨k1, k2, k3⟩ := vx_keep h0 e1 hS hAX hf hL hF
    obtain ⟨t2, a1, b1⟩ := kx E ce q u t T'.heap (locs ++ L) e1.symm (by rw [← e2]; exact X'.warmed.alike) hp hb k1 k2 k3 (by rw [e1]; exact hce) hcv hcl T' rfl X'
    exact ⟨t2, st.trans a1, b1⟩
theorem vx_callf {S SX : Type} {post : UInt32 → S → Prop} {px : SX → Prop} {B : S → State → Prop} {BX : String → SX → State → Prop} {AX : Nat → Prop} (hr : vx_Run p l e R s m args below meth c H locs cells slots mc ms (F0 m pc ls st0) rest (va_Qf post B A1 a) (vx_X px BX AX) free) (hS : va_S A0 H0 H locs) (hA : ∀ q, q < H.size → A1 q → A0 q) (hf : ∀ q, free q → A0 q) (hAX : ∀ q, q < H.size → AX q → A0 q)
    (kx : ∀ (E : String) (ce : Cell) (q9 : Addr) (u : SX) (t : State) (H1 : Heap) (locs1 : List Loc), t.heap = H1 → s.vm.Alike t.vm → px u → BX E u t → H.size ≤ H1.size → (∀ q : Nat, q < H.size → ¬ AX q → H1[q]? = H[q]?) → va_S A0 H0 H1 locs1 → H1[q9]? = some ce → ce.vm = .none → s.vm.findClass E = some ce.cls → vx_W p l e R s m args below meth c H1 locs1 (cells + mc) (slots + ms) Q (F0 m pc ls rest) q9)
    (kk : ∀ (r : UInt32) (u : S) (t : State) (H1 : Heap) (locs1 : List Loc), t.heap = H1 → s.vm.Alike t.vm → post r u → B u t → H.size ≤ H1.size → (∀ q : Nat, q < H.size → ¬ A1 q → H1[q]? = H[q]?) → va_S A0 H0 H1 locs1 → W p l e R s m args below meth c H1 locs1 (cells + mc) (slots + ms) Q (F0 m (pc + 3) ls (.float r :: rest))) : W p l e R s m args below meth c H locs cells slots Q (F0 m pc ls st0) := by
  intro T hT X
  rcases hr T hT X with ⟨v, st₀, t, T', L, h0, X', hL, e1, e2, ⟨⟨r, u, hv, hp, hb⟩, hF⟩, st⟩ | ⟨q, st₀, t, T', L, E, ce, h0, X', hL, e1, e2, ⟨u, hp, hb, hF⟩, hce, hcv, hcl, st⟩
  · cases hv
    obtain ⟨k1, k2, k3⟩ := vx_keep h0 e1 hS hA hf hL hF
    obtain ⟨t2, a1, b1⟩ := kk r u t T'.heap (locs ++ L) e1.symm (by rw [← e2]; exact X'.warmed.alike) hp hb k1 k2 k3 T' rfl X'
    exact ⟨t2, st t2 a1, b1⟩
  · obtain ⟨k1, k2, k3⟩ := vx_keep h0 e1 hS hAX hf hL hF
    obtain ⟨t2, a1, b1⟩ := kx E ce q u t T'.heap (locs ++ L) e1.symm (by rw [← e2]; exact X'.warmed.alike) hp hb k1 k2 k3 (by rw [e1]; exact hce) hcv hcl T' rfl X'
    exact ⟨t2, st.trans a1, b1⟩
theorem vx_calld {S SX : Type} {post : UInt64 → S → Prop} {px : SX → Prop} {B : S → State → Prop} {BX : String → SX → State → Prop} {AX : Nat → Prop} (hr : vx_Run p l e R s m args below meth c H locs cells slots mc ms (F0 m pc ls st0) rest (va_Qd post B A1 a) (vx_X px BX AX) free) (hS : va_S A0 H0 H locs) (hA : ∀ q, q < H.size → A1 q → A0 q) (hf : ∀ q, free q → A0 q) (hAX : ∀ q, q < H.size → AX q → A0 q)
    (kx : ∀ (E : String) (ce : Cell) (q9 : Addr) (u : SX) (t : State) (H1 : Heap) (locs1 : List Loc), t.heap = H1 → s.vm.Alike t.vm → px u → BX E u t → H.size ≤ H1.size → (∀ q : Nat, q < H.size → ¬ AX q → H1[q]? = H[q]?) → va_S A0 H0 H1 locs1 → H1[q9]? = some ce → ce.vm = .none → s.vm.findClass E = some ce.cls → vx_W p l e R s m args below meth c H1 locs1 (cells + mc) (slots + ms) Q (F0 m pc ls rest) q9)
    (kk : ∀ (r : UInt64) (u : S) (t : State) (H1 : Heap) (locs1 : List Loc), t.heap = H1 → s.vm.Alike t.vm → post r u → B u t → H.size ≤ H1.size → (∀ q : Nat, q < H.size → ¬ A1 q → H1[q]? = H[q]?) → va_S A0 H0 H1 locs1 → W p l e R s m args below meth c H1 locs1 (cells + mc) (slots + ms) Q (F0 m (pc + 3) ls (.double r :: rest))) : W p l e R s m args below meth c H locs cells slots Q (F0 m pc ls st0) := by
  intro T hT X
  rcases hr T hT X with ⟨v, st₀, t, T', L, h0, X', hL, e1, e2, ⟨⟨r, u, hv, hp, hb⟩, hF⟩, st⟩ | ⟨q, st₀, t, T', L, E, ce, h0, X', hL, e1, e2, ⟨u, hp, hb, hF⟩, hce, hcv, hcl, st⟩
  · cases hv
    obtain ⟨k1, k2, k3⟩ := vx_keep h0 e1 hS hA hf hL hF
    obtain ⟨t2, a1, b1⟩ := kk r u t T'.heap (locs ++ L) e1.symm (by rw [← e2]; exact X'.warmed.alike) hp hb k1 k2 k3 T' rfl X'
    exact ⟨t2, st t2 a1, b1⟩
  · obtain ⟨k1, k2, k3⟩ := vx_keep h0 e1 hS hAX hf hL hF
    obtain ⟨t2, a1, b1⟩ := kx E ce q u t T'.heap (locs ++ L) e1.symm (by rw [← e2]; exact X'.warmed.alike) hp hb k1 k2 k3 (by rw [e1]; exact hce) hcv hcl T' rfl X'
    exact ⟨t2, st.trans a1, b1⟩
theorem vx_callv {S SX : Type} {post : S → Prop} {px : SX → Prop} {B : S → State → Prop} {BX : String → SX → State → Prop} {AX : Nat → Prop} (hr : vx_Run p l e R s m args below meth c H locs cells slots mc ms (F0 m pc ls st0) rest (va_Qv post B A1 a) (vx_X px BX AX) free) (hS : va_S A0 H0 H locs) (hA : ∀ q, q < H.size → A1 q → A0 q) (hf : ∀ q, free q → A0 q) (hAX : ∀ q, q < H.size → AX q → A0 q)
    (kx : ∀ (E : String) (ce : Cell) (q9 : Addr) (u : SX) (t : State) (H1 : Heap) (locs1 : List Loc), t.heap = H1 → s.vm.Alike t.vm → px u → BX E u t → H.size ≤ H1.size → (∀ q : Nat, q < H.size → ¬ AX q → H1[q]? = H[q]?) → va_S A0 H0 H1 locs1 → H1[q9]? = some ce → ce.vm = .none → s.vm.findClass E = some ce.cls → vx_W p l e R s m args below meth c H1 locs1 (cells + mc) (slots + ms) Q (F0 m pc ls rest) q9)
    (kk : ∀ (u : S) (t : State) (H1 : Heap) (locs1 : List Loc), t.heap = H1 → s.vm.Alike t.vm → post u → B u t → H.size ≤ H1.size → (∀ q : Nat, q < H.size → ¬ A1 q → H1[q]? = H[q]?) → va_S A0 H0 H1 locs1 → W p l e R s m args below meth c H1 locs1 (cells + mc) (slots + ms) Q (F0 m (pc + 3) ls (rest))) : W p l e R s m args below meth c H locs cells slots Q (F0 m pc ls st0) := by
  intro T hT X
  rcases hr T hT X with ⟨v, st₀, t, T', L, h0, X', hL, e1, e2, ⟨⟨u, hv, hp, hb⟩, hF⟩, st⟩ | ⟨q, st₀, t, T', L, E, ce, h0, X', hL, e1, e2, ⟨u, hp, hb, hF⟩, hce, hcv, hcl, st⟩
  · cases hv
    obtain ⟨k1, k2, k3⟩ := vx_keep h0 e1 hS hA hf hL hF
    obtain ⟨t2, a1, b1⟩ := kk u t T'.heap (locs ++ L) e1.symm (by rw [← e2]; exact X'.warmed.alike) hp hb k1 k2 k3 T' rfl X'
    exact ⟨t2, st t2 a1, b1⟩
  · obtain ⟨k1, k2, k3⟩ := vx_keep h0 e1 hS hAX hf hL hF
    obtain ⟨t2, a1, b1⟩ := kx E ce q u t T'.heap (locs ++ L) e1.symm (by rw [← e2]; exact X'.warmed.alike) hp hb k1 k2 k3 (by rw [e1]; exact hce) hcv hcl T' rfl X'
    exact ⟨t2, st.trans a1, b1⟩
/-- caught by the row x of this method's table; the rows ahead don't take it -/
theorem vx_catch {own name : String} {E : String} {ce : Cell} {q : Addr} (hown : s.vm.findClass own = some m.cls) (pre : List ExceptionTableEntry) (x : ExceptionTableEntry) (suf : List ExceptionTableEntry) (hsplit : c.exceptionTable.toList = pre ++ x :: suf)
    (hpass : ∀ z ∈ pre, covers z pc = false ∨ (z.catchType ≠ 0 ∧ ∃ nm : String, (Cond.classLink own z.catchType nm).before args s = true ∧ va_Nc E nm s)) (hx : covers x pc = true) (h0 : x.catchType ≠ 0)
    (hlink : (Cond.classLink own x.catchType name).before args s = true) (hcast : (Cond.castable E name).before args s = true) (hcell : H[q]? = some ce) (hv : ce.vm = .none) (hcl : s.vm.findClass E = some ce.cls)
    (kk : W p l e R s m args below meth c H locs cells slots Q (F0 m x.handlerPc ls [.ref q])) : vx_W p l e R s m args below meth c H locs cells slots Q (F0 m pc ls rest) q := by
  intro T hT X
  have hpl : e.platform.magicAccessors = ({} : Platform).magicAccessors := by rw [X.admits.platform]
  obtain ⟨c3, c4, hc3, hc4, hasg⟩ := Cond.castable_spec hcast
  cases Option.some.inj (hc3.symm.trans hcl)
  obtain ⟨c5, hc5, hcl5⟩ := Cond.classLink_spec hown hlink e.platform hpl
  cases Option.some.inj (hc4.symm.trans hc5)
  obtain ⟨vm', X', st⟩ := X.thenCaughtThrough q (g := F0 m pc ls rest) rfl (Steps.refl _) (by rw [hT]; exact hcell) (by rw [hv]; rfl) (by obtain ⟨k9, h9, -⟩ := Vm.findClass_spec hcl; exact ⟨k9, h9⟩) pre x suf hsplit
    (fun z hz => by
      rcases hpass z hz with h | ⟨hz0, nm, hl1, hn1⟩
      · exact Or.inl h
      · obtain ⟨c6, hc6, hcl6⟩ := Cond.classLink_spec hown hl1 e.platform hpl
        obtain ⟨a8, b8, h1, h2, h3⟩ := hn1
        cases Option.some.inj (h1.symm.trans hcl)
        cases Option.some.inj (h2.symm.trans hc6)
        exact Or.inr ⟨hz0, _, hcl6, h3⟩) hx (Or.inr ⟨h0, c4, hcl5, hasg⟩)
  obtain ⟨t, a1, b1⟩ := kk (T.setVm vm') hT X'
  exact ⟨t, st.trans a1, b1⟩
end Rows
section Ends
variable {p : Program} {l : Launch} {e : Env} {R : Room} {s : State} {m : MethodId} {args : Array Value} {below : List Frame} {meth : Method} {c : Code} {H : Heap} {locs : List Loc} {cells slots : Nat} {Q : State → Prop}
variable {mc ms : Nat} {free : Addr → Prop} {A0 A1 : Nat → Prop} {H0 : Heap} {a : Array Value} {ls : Array Slot} {st0 rest : List Value}
variable {Qc : Array Value → State → Outcome → State → Prop} {XC : String → State → State → Prop}
/-- what a body that may throw owes at its end -/
def vx_MQ (below : List Frame) (Qc : Array Value → State → Outcome → State → Prop) (XC : String → State → State → Prop) (a : Array Value) (s : State) (mc ms : Nat) (free : Addr → Prop) : State → Prop := fun t =>
  ∃ o, t.status = .running ∧ Ended t below o ∧ vx_Q Qc XC mc ms free a s o t
theorem vx_ret {g : JFrame} {mc ms : Nat} (k : W p l e R s m args below meth c H locs cells slots (MQ below Qc args s mc ms free) g) : W p l e R s m args below meth c H locs cells slots (vx_MQ below Qc XC args s mc ms free) g := by
  intro T hT X
  obtain ⟨t, a1, o, b1, b2, b3, b4⟩ := k T hT X
  exact ⟨t, a1, o, b1, b2, Or.inl ⟨b3, b4⟩⟩
/-- not caught here: it goes on to the caller -/
theorem vx_widen {g : JFrame} {q : Addr} {k n : Nat} (h1 : cells ≤ k) (h2 : slots ≤ n) (kk : vx_W p l e R s m args below meth c H locs k n Q g q) : vx_W p l e R s m args below meth c H locs cells slots Q g q := fun T hT X => kk T hT (stand_widen X h1 h2)
theorem vx_out {pc : Nat} {E : String} {ce : Cell} {q : Addr} {mc ms : Nat} (hout : ∀ x ∈ c.exceptionTable.toList, covers x pc = false) (hlocks : meth.locks = false) (hcell : H[q]? = some ce) (hv : ce.vm = .none) (hcl : s.vm.findClass E = some ce.cls)
    (hx : ∀ t : State, t.heap = H → s.vm.Alike t.vm → XC E s t) (hf : ∀ z ∈ locs, free z.base) (hc : cells ≤ mc) (hs : slots ≤ ms) :
    vx_W p l e R s m args below meth c H locs cells slots (vx_MQ below Qc XC args s mc ms free) (F0 m pc ls rest) q := by
  intro T hT X
  obtain ⟨st1, hrun, hend, hW, hsm⟩ := X.leaveThrown q (g := F0 m pc ls rest) rfl rfl rfl hout hlocks
  have hcell9 : (T.setFrames (.throwing q :: below)).heap[q]? = some ce := by
    show T.heap[q]? = some ce
    rw [hT]; exact hcell
  exact ⟨_, st1, .threw q, hrun, hend, Or.inr ⟨q, rfl, E, ce, locs, hx _ hT hW.alike, hcell9, hv, hcl, hW, hsm.mono hc hs, hf⟩⟩
theorem vx_frame {U : State} {k n : Nat} (h : s.sameButNew ({ U with vm := s.vm } : State) locs k n) : s.heap.size ≤ U.heap.size ∧ ∀ q : Nat, q < s.heap.size → (∀ z ∈ locs, z.base ≠ q) → U.heap[q]? = s.heap[q]? := by
  obtain ⟨-, h2, -, -, -, h6⟩ := h
  refine ⟨h2, fun q hq hz => ?_⟩
  obtain ⟨c9, e1, e2, e3, e4⟩ := h6 q _ (Array.getElem?_eq_getElem hq)
  have hs : c9.slots = (s.heap[q]).slots := Array.ext_getElem? fun i => e4 i fun hm => hz _ hm rfl
  have h9 : c9 = s.heap[q] := by
    rw [hs] at e2
    exact e2
  have e5 : U.heap[q]? = some c9 := e1
  rw [e5, h9, Array.getElem?_eq_getElem hq]
/-- the words of a throw but the four that speak of the heap -/
def vx_no (w : Cond) : Bool := decide (w ≠ .isRef (.static Bundle.tN "UNASSIGNED_STACK" Bundle.steD)) && decide (w ≠ .isRef (.static Bundle.tN "SUPPRESSED_SENTINEL" Bundle.listD)) && decide (w ≠ .laysStatic Bundle.tN "UNASSIGNED_STACK" Bundle.steD) && decide (w ≠ .laysStatic Bundle.tN "SUPPRESSED_SENTINEL" Bundle.listD)
def vx_at0 (own : String) (ic : Nat) (X : String) (names : List String) : List Cond := (Bundle.ownAtoms0 own ic X names).filter vx_no
def vx_atS (own : String) (ic : Nat) (X : String) (names : List String) : List Cond := (Bundle.ownAtoms own ic X names).filter vx_no
/-- a word that the tables alone decide, or a good one -/
def vx_ot (w : Cond) : Bool := w.onTables || goodWord w
theorem vx_ot_at {args a' : Array Value} {s U : State} {w : Cond} (hW : s.WarmedH U.vm) (hvm : s.vm = U.vm) (hg : vx_ot w = true) (h : w.before args s = true) : w.before a' U = true := by
  simp only [vx_ot, Bool.or_eq_true] at hg
  rcases hg with hg | hg
  · exact va_tabs hg hvm h
  · exact word_at hW (good_of_word hg) h
/-- a list's words: the good ones out of the method's own list, the others by premises of their own -/
theorem vx_hat {args : Array Value} {s : State} {L B : List Cond} (h1 : ∀ w ∈ L.filter goodWord, w.before args s = true) (h2 : ∀ w ∈ L.filter (fun w => !goodWord w), w ∈ B) (h3 : ∀ w ∈ B, w.before args s = true) : ∀ w ∈ L, w.before args s = true := by
  intro w hw
  by_cases g : goodWord w = true
  · exact h1 w (List.mem_filter.mpr ⟨hw, g⟩)
  · refine h3 w (h2 w (List.mem_filter.mpr ⟨hw, ?_⟩))
    show (!goodWord w) = true
    cases hgw : goodWord w
    · rfl
    · exact absurd hgw g
theorem vx_c {args : Array Value} {s : State} {w : Cond} {B : List Cond} (h : w.before args s = true) (t : ∀ w ∈ B, w.before args s = true) : ∀ w' ∈ w :: B, w'.before args s = true := fun w' h' => (List.mem_cons.mp h').elim (fun e => by rw [e]; exact h) (t w')
theorem vx_n {args : Array Value} {s : State} : ∀ w ∈ ([] : List Cond), w.before args s = true := fun _ h => nomatch h
theorem vx_own {args : Array Value} {s : State} {L : List Cond} (h1 : ∀ w ∈ L.filter vx_no, w.before args s = true)
    (hU : (Cond.isRef (.static Bundle.tN "UNASSIGNED_STACK" Bundle.steD)).before args s = true) (hN : (Cond.isRef (.static Bundle.tN "SUPPRESSED_SENTINEL" Bundle.listD)).before args s = true)
    (lU : (Cond.laysStatic Bundle.tN "UNASSIGNED_STACK" Bundle.steD).before args s = true) (lN : (Cond.laysStatic Bundle.tN "SUPPRESSED_SENTINEL" Bundle.listD).before args s = true) : ∀ w ∈ L, w.before args s = true := by
  intro w hw
  by_cases e1 : w = .isRef (.static Bundle.tN "UNASSIGNED_STACK" Bundle.steD)
  · rw [e1]; exact hU
  · by_cases e2 : w = .isRef (.static Bundle.tN "SUPPRESSED_SENTINEL" Bundle.listD)
    · rw [e2]; exact hN
    · by_cases e3 : w = .laysStatic Bundle.tN "UNASSIGNED_STACK" Bundle.steD
      · rw [e3]; exact lU
      · by_cases e4 : w = .laysStatic Bundle.tN "SUPPRESSED_SENTINEL" Bundle.listD
        · rw [e4]; exact lN
        · exact h1 w (List.mem_filter.mpr ⟨hw, by unfold vx_no; rw [decide_eq_true e1, decide_eq_true e2, decide_eq_true e3, decide_eq_true e4]; rfl⟩)
/-- where a static field lies, its class's statics cell in H -/
def vx_L (C n d : String) (A : Nat → Prop) (U : State) (H : Heap) : Prop := ∃ (c : ClassId) (k : Class) (i : Nat) (f : Field) (a : Nat) (cell : Cell), U.vm.findClass C = some c ∧ U.fieldFound? C n d = some (c, k, i, f) ∧ f.isStatic = true ∧ k.statics = some a ∧ H[a]? = some cell ∧ cell.vm.isStatics = true ∧ cell.cls = c ∧ f.slot < cell.slots.size ∧ k.staticTypes[f.slot]? = some f.type ∧ ¬ A a
theorem vx_L.moved {C n d : String} {A : Nat → Prop} {u U : State} {H : Heap} (hvm : u.vm.Alike U.vm) (h : vx_L C n d A u H) : vx_L C n d A U H := by
  obtain ⟨c, k, i, f, a, cell, h1, h2, h3, h4, h5, h6, h7, h8, h9, h10⟩ := h
  obtain ⟨k', hi', he⟩ := State.fieldFound?_setVm hvm h2
  exact ⟨c, k', i, f, a, cell, by rw [hvm.findClass]; exact h1, hi', h3, by rw [he]; exact h4, h5, h6, h7, h8, by rw [he]; exact h9, h10⟩
theorem vx_L.kept {C n d : String} {A : Nat → Prop} {U : State} {H H1 : Heap} (h : vx_L C n d A U H) (hq : ∀ a : Nat, a < H.size → ¬ A a → H1[a]? = H[a]?) : vx_L C n d A U H1 := by
  obtain ⟨c, k, i, f, a, cell, h1, h2, h3, h4, h5, h6, h7, h8, h9, h10⟩ := h
  exact ⟨c, k, i, f, a, cell, h1, h2, h3, h4, by rw [hq a (Array.getElem?_eq_some_iff.mp h5).1 h10]; exact h5, h6, h7, h8, h9, h10⟩
theorem vx_L.narrow {C n d : String} {A B : Nat → Prop} {U : State} {H : Heap} (h : vx_L C n d A U H) (hAB : ∀ q, B q → A q) : vx_L C n d B U H := by
  obtain ⟨c, k, i, f, a, cell, h1, h2, h3, h4, h5, h6, h7, h8, h9, h10⟩ := h
  exact ⟨c, k, i, f, a, cell, h1, h2, h3, h4, h5, h6, h7, h8, h9, fun z => h10 (hAB _ z)⟩
theorem vx_L.word {C n d : String} {A : Nat → Prop} {s : State} {args : Array Value} (h : vx_L C n d A s s.heap) : (Cond.laysStatic C n d).before args s = true := by
  obtain ⟨c, k, i, f, a, cell, h1, h2, h3, h4, h5, h6, h7, h8, h9, -⟩ := h
  show (Cond.laysStatic C n d).holds args s none s [] = true
  exact Cond.laysStatic_of h1 h2 h3 h4 h5 h6 h7 h8 h9
/-- .. and what it holds: null or some reference -/
def vx_Zq (C n d : String) (A : Nat → Prop) (U : State) (H : Heap) : Prop := va_Zq C n d A U H ∧ vx_L C n d A U H
theorem vx_Zq.moved {C n d : String} {A : Nat → Prop} {u U : State} {H : Heap} (hvm : u.vm.Alike U.vm) (h : vx_Zq C n d A u H) : vx_Zq C n d A U H := ⟨va_Zq.moved hvm h.1, vx_L.moved hvm h.2⟩
theorem vx_Zq.kept {C n d : String} {A : Nat → Prop} {U : State} {H H1 : Heap} (h : vx_Zq C n d A U H) (hq : ∀ a : Nat, a < H.size → ¬ A a → H1[a]? = H[a]?) : vx_Zq C n d A U H1 := ⟨va_Zq.kept h.1 hq, vx_L.kept h.2 hq⟩
theorem vx_Zq.narrow {C n d : String} {A B : Nat → Prop} {U : State} {H : Heap} (h : vx_Zq C n d A U H) (hAB : ∀ q, B q → A q) : vx_Zq C n d B U H := ⟨va_Zq.narrow h.1 hAB, vx_L.narrow h.2 hAB⟩
theorem vx_Zqof {args : Array Value} {s : State} {C n d : String} {A : Nat → Prop} (hl : (Cond.laysStatic C n d).before args s = true) (hini : (Cond.initialized C).before args s = true) (h : (Cond.isRef (.static C n d)).before args s = true) (hA : ∀ a : Nat, a < s.heap.size → ¬ A a) : vx_Zq C n d A s s.heap := by
  refine ⟨va_Zqof hl hini h hA, ?_⟩
  obtain ⟨c, k, i, f, a, cell, h1, h2, h3, h4, h5, h6, h7, h8, h9⟩ := Cond.laysStatic_spec hl
  exact ⟨c, k, i, f, a, cell, h1, h2, h3, h4, h5, h6, h7, h8, h9, hA a (Array.getElem?_eq_some_iff.mp h5).1⟩
theorem vx_isRef {C n d : String} {v : Value} {A : Nat → Prop} {s : State} {args : Array Value} (h : va_Z C n d v A s s.heap) (hv : v.isRef = true) : (Cond.isRef (.static C n d)).before args s = true := by
  obtain ⟨cf, kf, fi, f, a, cell, h1, h2, h3, h4, h5, h6, h7, -⟩ := h
  have he : (Term.static C n d).eval args s none [] s = some v := by
    simp [Term.eval, State.fieldNamed?, h1, h2, h4, h5, h6, h7]
  simp only [Cond.before, Cond.holds, Cond.value, he]
  cases v <;> simp_all [Value.isRef]
theorem vx_isRefq {C n d : String} {A : Nat → Prop} {s : State} {args : Array Value} (h : va_Zq C n d A s s.heap) : (Cond.isRef (.static C n d)).before args s = true := by
  rcases h with h | ⟨t, h⟩
  · exact vx_isRef h rfl
  · exact vx_isRef h rfl
/-- the same frame, seen from here: as if the method were called anew in this heap -/
theorem vx_rebase {T : State} (X : Stand p l e R s m args below meth c T locs cells slots) {R' : Room} (hf : R'.frames ≤ R.frames) (hl : R'.locals ≤ R.locals) (hc : cells + R'.cells ≤ R.cells) (hs : slots + R'.slots ≤ R.slots) :
    Stand p l e R' ((T.setVm s.vm).setFrames (.invoking m args :: below)) m args below meth c T [] 0 0 := by
  have htop : (T.setVm s.vm).topJava?.isSome := X.here.top
  have hF : ((T.setVm s.vm).setFrames (.invoking m args :: below)).frames = .invoking m args :: below := State.frames_setFrames _ (State.cur_lt_of_top htop)
  obtain ⟨g₀, hg0⟩ := Option.isSome_iff_exists.mp htop
  obtain ⟨r, hr⟩ := State.topJava?_eq_some.mp hg0
  have hl9 : e.platform.stackLimits (T.setVm s.vm).me = e.platform.stackLimits s.me := X.limits
  have hb9 : (T.setVm s.vm).me.stackBytes = s.me.stackBytes := X.bytes
  refine ⟨X.admits, X.cas, X.clock, hF, ?_, X.hears, X.method, X.code, X.here, X.tail, X.warmed, ?_, ?_, ?_⟩
  · have h := X.room
    have hU : ((T.setVm s.vm).setFrames (.invoking m args :: below)).localsInUse = s.localsInUse := by
      rw [State.localsInUse_invoking hF (meth := meth) (c := c) X.method X.code, State.localsInUse_invoking X.frames X.method X.code]
    simp only [State.hasRoom, Bool.and_eq_true, decide_eq_true_eq] at h ⊢
    obtain ⟨⟨⟨⟨h1, h2, h3, h4, h5, h6⟩, h7⟩, h8⟩, h9⟩ := h
    rw [X.frames, List.length_cons] at h2 h3
    have q1 := X.heapSize
    have q2 := X.used
    simp only [hF, hU, List.length_cons, State.stackLimits_setFrames, State.stackBytes_setFrames, hl9, hb9]
    refine ⟨⟨⟨⟨by omega, by omega, by omega, by omega, by omega, h6⟩, ?_⟩, ?_⟩, X.book⟩
    · show T.heap.size + R'.cells ≤ e.platform.maxCells
      omega
    · show T.slotsUsed + R'.slots ≤ e.platform.maxSlots
      omega
  · rw [State.stackLimits_setFrames]; rfl
  · rw [State.stackBytes_setFrames]; rfl
  · refine ⟨?_, Nat.le_refl _, Nat.le_refl _, ?_, ?_, fun a c9 h9 => ⟨c9, h9, rfl, rfl, fun _ _ => rfl⟩⟩
    · obtain ⟨t, ht, -⟩ := State.frames_cons hr
      show T.setVm s.vm = { ((T.setVm s.vm).setFrames (.invoking m args :: below)).setFrames (T.setVm s.vm).frames with heap := T.heap, slotsUsed := T.slotsUsed }
      rw [State.setFrames_setFrames, State.setFrames_self ht]
      rfl
    · show T.slotsUsed = T.slotsUsed + ((T.heap.toList.drop T.heap.size).map (·.slots.size)).sum
      rw [List.drop_eq_nil_of_le (Nat.le_of_eq Array.length_toList)]
      rfl
    · show ((T.heap.toList.drop T.heap.size).map (·.slots.size)).sum ≤ 0
      rw [List.drop_eq_nil_of_le (Nat.le_of_eq Array.length_toList)]
      exact Nat.le_refl _
/-- 'throw new E()': new; dup; invokespecial; athrow -/
theorem vx_throw0 {cc : ByteArray} {pc : Nat} (hexec : p.tables.exec = Jvm.exec) (hb : c.code = cc) (hl : l.stackTraces = false) {own cls : String} {names : List String} {ik ic mc ms : Nat} {A : Nat → Prop}
    (hown : s.vm.findClass own = some m.cls) (hcls : Bundle.fit cls = true) (hnames : ∀ n ∈ names, Bundle.fit n = true)
    (hk : (Cond.classLink own ik cls).before args s = true) (hini : (Cond.initialized cls).before args s = true) (hat : ∀ w ∈ vx_at0 own ic cls names, w.before args s = true)
    (hgood : ∀ w ∈ Cond.classLink own ik cls :: Cond.initialized cls :: vx_at0 own ic cls names, vx_ot w = true)
    (hU : vx_Zq Bundle.tN "UNASSIGNED_STACK" Bundle.steD A s s.heap) (hN : vx_Zq Bundle.tN "SUPPRESSED_SENTINEL" Bundle.listD A s s.heap) (hS : va_S A s.heap H locs) (hsize : ls.size = c.maxLocals)
    (d0 : decode cc pc = .ok (.new ik, 3)) (d3 : decode cc (pc + 3) = .ok (.dup, 1)) (d4 : decode cc (pc + 4) = .ok (.invokespecial ic, 3)) (d7 : decode cc (pc + 7) = .ok (.athrow, 1))
    (hout : ∀ x ∈ c.exceptionTable.toList, covers x (pc + 7) = false)
    (hRframes : names.length + 3 < R.frames) (hRlocals : (rest.map fun v => v.category).sum + (13 * (names.length + 1) + 42) ≤ R.locals) (hRcells : cells + 1 ≤ R.cells) (hRslots : slots + 6 ≤ R.slots) (hlocks : meth.locks = false)
    (hx : ∀ t : State, s.vm.Alike t.vm → H.size ≤ t.heap.size → (∀ q : Nat, q < H.size → t.heap[q]? = H[q]?) → XC cls s t)
    (hf : ∀ z ∈ locs, free z.base) (hc : cells + 1 ≤ mc) (hs : slots + 6 ≤ ms) :
    W p l e R s m args below meth c H locs cells slots (vx_MQ below Qc XC args s mc ms free) (F0 m pc ls rest) := by
  intro T hT X
  have htr : e.platform.stackTraces = false := (show e.platform.stackTraces = l.stackTraces by rw [X.admits.platform]).trans hl
  have Y := vx_rebase X (R' := { frames := R.frames, locals := R.locals, cells := 1, slots := 6 }) (Nat.le_refl _) (Nat.le_refl _) hRcells hRslots
  obtain ⟨s', hA⟩ : ∃ z, z = (T.setVm s.vm).setFrames (.invoking m args :: below) := ⟨_, rfl⟩
  rw [← hA] at Y
  have hvm : s'.vm = s.vm := by rw [hA]; rfl
  have hhp : s'.heap = H := by rw [hA]; exact hT
  have hW0 : s.WarmedH s'.vm := by rw [hvm]; exact State.WarmedH.refl s
  have hat' : ∀ w ∈ vx_at0 own ic cls names, w.before args s' = true := fun w hw => vx_ot_at hW0 hvm.symm (hgood w (List.mem_cons_of_mem _ (List.mem_cons_of_mem _ hw))) (hat w hw)
  have hk' : (Cond.classLink own ik cls).before args s' = true := vx_ot_at hW0 hvm.symm (hgood _ List.mem_cons_self) hk
  have hini' : (Cond.initialized cls).before args s' = true := vx_ot_at hW0 hvm.symm (hgood _ (List.mem_cons_of_mem _ List.mem_cons_self)) hini
  have hU' : vx_Zq Bundle.tN "UNASSIGNED_STACK" Bundle.steD A s' s'.heap := by rw [hhp]; exact vx_Zq.moved hW0.alike (hU.kept hS.2.1)
  have hN' : vx_Zq Bundle.tN "SUPPRESSED_SENTINEL" Bundle.listD A s' s'.heap := by rw [hhp]; exact vx_Zq.moved hW0.alike (hN.kept hS.2.1)
  have h : ∀ w ∈ Bundle.ownAtoms0 own ic cls names, w.before args s' = true := vx_own hat' (vx_isRefq hU'.1) (vx_isRefq hN'.1) hU'.2.word hN'.2.word
  have hown' : s'.vm.findClass own = some m.cls := by rw [hvm]; exact hown
  have hins : (Cond.instantiable cls 6).before args s' = true := h _ (by simp [Bundle.ownAtoms0])
  obtain ⟨vm₁, cX, kX, hfX, hkX, -, -, X₁, st1⟩ := Y.newCold hexec (own := own) (C := cls) (index := ik) (n := 6) hown' hk' hins hini'
    (g := F0 m pc ls rest) rfl (by rw [hb]; exact d0) (Nat.le_refl _) (Nat.le_refl _)
  generalize hT1 : (T.setVm vm₁).pushCell { cls := cX, slots := kX.instanceTypes.map defaultValue, vm := .none } = T1 at X₁ st1
  have hcat : (Value.ref T.heap.size).category = 1 := rfl
  have hcellA : T1.heap[T.heap.size]? = some (freshCell cX kX) := by rw [← hT1]; exact State.heap_pushCell_size _ _
  have d3' : decode c.code (pc + 3) = .ok (.dup, 1) := by rw [hb]; exact d3
  obtain ⟨U, hsteps, hrun, hend, hW, hsame, ce, hce, hO⟩ := X₁.ctorThrow0 hexec htr (own := own) (cls := cls) (names := names) (ic := ic) hown' hcls hnames h (fun x hx => nomatch hx) hfX hkX hcellA (by rw [hhp, hT]; exact Nat.le_refl _)
    (g := { method := m, pc := pc + 4, locals := ls, stack := .ref T.heap.size :: .ref T.heap.size :: rest, locked := none }) rfl hsize rfl rfl (rest := rest) rfl
    (by rw [hb]; exact d4) (by rw [hb]; exact d7) hout hRframes (by simp only [List.map_cons, List.sum_cons, hcat]; omega) hlocks
  obtain ⟨f1, f2⟩ := vx_frame hsame
  rw [hhp] at f1 f2
  have hWs : s.WarmedH U.vm := State.WarmedH.trans hW0 hW
  have hcl : s.vm.findClass cls = some ce.cls := by
    have h9 := hO.cls
    rw [hvm] at h9
    exact h9
  have hall : s.sameButNew ({ U with vm := s.vm } : State) locs mc ms := by
    subst hA
    obtain ⟨e1, e2⟩ := hsame
    rw [State.setFrames_setFrames] at e1
    have h2 : (T.setVm s.vm).sameButNew ({ U with vm := s.vm } : State) [] (0 + 1) (0 + 6) := ⟨e1, e2⟩
    have h3 := X.same.trans h2
    rw [List.append_nil] at h3
    exact h3.mono hc hs
  refine ⟨U, ?_, .threw T.heap.size, hrun, hend, Or.inr ⟨T.heap.size, rfl, cls, ce, locs, hx U hWs.alike f1 (fun q hq => f2 q hq (fun z hz => nomatch hz)), hce, hO.vm, hcl, hWs, hall, hf⟩⟩
  refine st1 _ ?_
  show Steps p.tables e below (T1.setTop { method := m, pc := pc + 3, locals := ls, stack := .ref T.heap.size :: rest, locked := none }) _
  jvm_step X₁.here [X₁.here.top, hexec, d3', Value.category]
  exact hsteps
/-- 'throw new E("text")': new; dup; ldc; invokespecial; athrow -/
theorem vx_throwS {cc : ByteArray} {pc : Nat} (hexec : p.tables.exec = Jvm.exec) (hb : c.code = cc) (hl : l.stackTraces = false) {own cls text : String} {names : List String} {ik is ic mc ms sa : Nat} {A : Nat → Prop}
    (hown : s.vm.findClass own = some m.cls) (hcls : Bundle.fit cls = true) (hnames : ∀ n ∈ names, Bundle.fit n = true)
    (hk : (Cond.classLink own ik cls).before args s = true) (hini : (Cond.initialized cls).before args s = true) (hstr : vk_R own is text sa s) (hat : ∀ w ∈ vx_atS own ic cls names, w.before args s = true)
    (hgood : ∀ w ∈ Cond.classLink own ik cls :: Cond.initialized cls :: vx_atS own ic cls names, vx_ot w = true)
    (hU : vx_Zq Bundle.tN "UNASSIGNED_STACK" Bundle.steD A s s.heap) (hN : vx_Zq Bundle.tN "SUPPRESSED_SENTINEL" Bundle.listD A s s.heap) (hS : va_S A s.heap H locs) (hsize : ls.size = c.maxLocals)
    (d0 : decode cc pc = .ok (.new ik, 3)) (d3 : decode cc (pc + 3) = .ok (.dup, 1)) (d4 : decode cc (pc + 4) = .ok (.ldc is, 2)) (d6 : decode cc (pc + 6) = .ok (.invokespecial ic, 3)) (d9 : decode cc (pc + 9) = .ok (.athrow, 1))
    (hout : ∀ x ∈ c.exceptionTable.toList, covers x (pc + 9) = false)
    (hRframes : names.length + 3 < R.frames) (hRlocals : (rest.map fun v => v.category).sum + (13 * (names.length + 1) + 43) ≤ R.locals) (hRcells : cells + 1 ≤ R.cells) (hRslots : slots + 6 ≤ R.slots) (hlocks : meth.locks = false)
    (hx : ∀ t : State, s.vm.Alike t.vm → H.size ≤ t.heap.size → (∀ q : Nat, q < H.size → t.heap[q]? = H[q]?) → XC cls s t)
    (hf : ∀ z ∈ locs, free z.base) (hc : cells + 1 ≤ mc) (hs : slots + 6 ≤ ms) :
    W p l e R s m args below meth c H locs cells slots (vx_MQ below Qc XC args s mc ms free) (F0 m pc ls rest) := by
  intro T hT X
  have htr : e.platform.stackTraces = false := (show e.platform.stackTraces = l.stackTraces by rw [X.admits.platform]).trans hl
  have Y := vx_rebase X (R' := { frames := R.frames, locals := R.locals, cells := 1, slots := 6 }) (Nat.le_refl _) (Nat.le_refl _) hRcells hRslots
  obtain ⟨s', hA⟩ : ∃ z, z = (T.setVm s.vm).setFrames (.invoking m args :: below) := ⟨_, rfl⟩
  rw [← hA] at Y
  have hvm : s'.vm = s.vm := by rw [hA]; rfl
  have hhp : s'.heap = H := by rw [hA]; exact hT
  have hW0 : s.WarmedH s'.vm := by rw [hvm]; exact State.WarmedH.refl s
  have hat' : ∀ w ∈ vx_atS own ic cls names, w.before args s' = true := fun w hw => vx_ot_at hW0 hvm.symm (hgood w (List.mem_cons_of_mem _ (List.mem_cons_of_mem _ hw))) (hat w hw)
  have hk' : (Cond.classLink own ik cls).before args s' = true := vx_ot_at hW0 hvm.symm (hgood _ List.mem_cons_self) hk
  have hini' : (Cond.initialized cls).before args s' = true := vx_ot_at hW0 hvm.symm (hgood _ (List.mem_cons_of_mem _ List.mem_cons_self)) hini
  have hU' : vx_Zq Bundle.tN "UNASSIGNED_STACK" Bundle.steD A s' s'.heap := by rw [hhp]; exact vx_Zq.moved hW0.alike (hU.kept hS.2.1)
  have hN' : vx_Zq Bundle.tN "SUPPRESSED_SENTINEL" Bundle.listD A s' s'.heap := by rw [hhp]; exact vx_Zq.moved hW0.alike (hN.kept hS.2.1)
  have h : ∀ w ∈ Bundle.ownAtoms own ic cls names, w.before args s' = true := vx_own hat' (vx_isRefq hU'.1) (vx_isRefq hN'.1) hU'.2.word hN'.2.word
  have hown' : s'.vm.findClass own = some m.cls := by rw [hvm]; exact hown
  have hins : (Cond.instantiable cls 6).before args s' = true := h _ (by simp [Bundle.ownAtoms])
  obtain ⟨vm₁, cX, kX, hfX, hkX, -, -, X₁, st1⟩ := Y.newCold hexec (own := own) (C := cls) (index := ik) (n := 6) hown' hk' hins hini'
    (g := F0 m pc ls rest) rfl (by rw [hb]; exact d0) (Nat.le_refl _) (Nat.le_refl _)
  generalize hT1 : (T.setVm vm₁).pushCell { cls := cX, slots := kX.instanceTypes.map defaultValue, vm := .none } = T1 at X₁ st1
  have hcat : (Value.ref T.heap.size).category = 1 := rfl
  have hcellA : T1.heap[T.heap.size]? = some (freshCell cX kX) := by rw [← hT1]; exact State.heap_pushCell_size _ _
  have d3' : decode c.code (pc + 3) = .ok (.dup, 1) := by rw [hb]; exact d3
  have d4' : decode c.code (pc + 4) = .ok (.ldc is, 2) := by rw [hb]; exact d4
  have hstr' : vk_R own is text sa s' := vk_R.warm hW0 hstr
  obtain ⟨U, hsteps, hrun, hend, hW, hsame, ce, hce, hO⟩ := X₁.ctorThrowS hexec htr (own := own) (cls := cls) (names := names) (ic := ic) hown' hcls hnames h (fun x hx => nomatch hx) hfX hkX hcellA (by rw [hhp, hT]; exact Nat.le_refl _) (msg := .ref sa) rfl
    (g := { method := m, pc := pc + 6, locals := ls, stack := .ref sa :: .ref T.heap.size :: .ref T.heap.size :: rest, locked := none }) rfl hsize rfl rfl (rest := rest) rfl
    (by rw [hb]; exact d6) (by rw [hb]; exact d9) hout hRframes (by simp only [List.map_cons, List.sum_cons, hcat]; omega) hlocks
  obtain ⟨f1, f2⟩ := vx_frame hsame
  rw [hhp] at f1 f2
  have hWs : s.WarmedH U.vm := State.WarmedH.trans hW0 hW
  have hcl : s.vm.findClass cls = some ce.cls := by
    have h9 := hO.cls
    rw [hvm] at h9
    exact h9
  have hall : s.sameButNew ({ U with vm := s.vm } : State) locs mc ms := by
    subst hA
    obtain ⟨e1, e2⟩ := hsame
    rw [State.setFrames_setFrames] at e1
    have h2 : (T.setVm s.vm).sameButNew ({ U with vm := s.vm } : State) [] (0 + 1) (0 + 6) := ⟨e1, e2⟩
    have h3 := X.same.trans h2
    rw [List.append_nil] at h3
    exact h3.mono hc hs
  refine ⟨U, ?_, .threw T.heap.size, hrun, hend, Or.inr ⟨T.heap.size, rfl, cls, ce, locs, hx U hWs.alike f1 (fun q hq => f2 q hq (fun z hz => nomatch hz)), hce, hO.vm, hcl, hWs, hall, hf⟩⟩
  refine st1 _ ?_
  show Steps p.tables e below (T1.setTop { method := m, pc := pc + 3, locals := ls, stack := .ref T.heap.size :: rest, locked := none }) _
  jvm_step X₁.here [X₁.here.top, hexec, d3', Value.category]
  exact X₁.ldcString hexec (own := own) (text := text) (index := is) (a := sa) hown' hstr'.1 hstr'.2
    (g := { method := m, pc := pc + 4, locals := ls, stack := .ref T.heap.size :: .ref T.heap.size :: rest, locked := none }) rfl d4' _ hsteps
/-- 'throw new E("text")', the text by a wide index -/
theorem vx_throwSW {cc : ByteArray} {pc : Nat} (hexec : p.tables.exec = Jvm.exec) (hb : c.code = cc) (hl : l.stackTraces = false) {own cls text : String} {names : List String} {ik is ic mc ms sa : Nat} {A : Nat → Prop}
    (hown : s.vm.findClass own = some m.cls) (hcls : Bundle.fit cls = true) (hnames : ∀ n ∈ names, Bundle.fit n = true)
    (hk : (Cond.classLink own ik cls).before args s = true) (hini : (Cond.initialized cls).before args s = true) (hstr : vk_R own is text sa s) (hat : ∀ w ∈ vx_atS own ic cls names, w.before args s = true)
    (hgood : ∀ w ∈ Cond.classLink own ik cls :: Cond.initialized cls :: vx_atS own ic cls names, vx_ot w = true)
    (hU : vx_Zq Bundle.tN "UNASSIGNED_STACK" Bundle.steD A s s.heap) (hN : vx_Zq Bundle.tN "SUPPRESSED_SENTINEL" Bundle.listD A s s.heap) (hS : va_S A s.heap H locs) (hsize : ls.size = c.maxLocals)
    (d0 : decode cc pc = .ok (.new ik, 3)) (d3 : decode cc (pc + 3) = .ok (.dup, 1)) (d4 : decode cc (pc + 4) = .ok (.ldc_w is, 3)) (d7 : decode cc (pc + 7) = .ok (.invokespecial ic, 3)) (d10 : decode cc (pc + 10) = .ok (.athrow, 1))
    (hout : ∀ x ∈ c.exceptionTable.toList, covers x (pc + 10) = false)
    (hRframes : names.length + 3 < R.frames) (hRlocals : (rest.map fun v => v.category).sum + (13 * (names.length + 1) + 43) ≤ R.locals) (hRcells : cells + 1 ≤ R.cells) (hRslots : slots + 6 ≤ R.slots) (hlocks : meth.locks = false)
    (hx : ∀ t : State, s.vm.Alike t.vm → H.size ≤ t.heap.size → (∀ q : Nat, q < H.size → t.heap[q]? = H[q]?) → XC cls s t)
    (hf : ∀ z ∈ locs, free z.base) (hc : cells + 1 ≤ mc) (hs : slots + 6 ≤ ms) :
    W p l e R s m args below meth c H locs cells slots (vx_MQ below Qc XC args s mc ms free) (F0 m pc ls rest) := by
  intro T hT X
  have htr : e.platform.stackTraces = false := (show e.platform.stackTraces = l.stackTraces by rw [X.admits.platform]).trans hl
  have Y := vx_rebase X (R' := { frames := R.frames, locals := R.locals, cells := 1, slots := 6 }) (Nat.le_refl _) (Nat.le_refl _) hRcells hRslots
  obtain ⟨s', hA⟩ : ∃ z, z = (T.setVm s.vm).setFrames (.invoking m args :: below) := ⟨_, rfl⟩
  rw [← hA] at Y
  have hvm : s'.vm = s.vm := by rw [hA]; rfl
  have hhp : s'.heap = H := by rw [hA]; exact hT
  have hW0 : s.WarmedH s'.vm := by rw [hvm]; exact State.WarmedH.refl s
  have hat' : ∀ w ∈ vx_atS own ic cls names, w.before args s' = true := fun w hw => vx_ot_at hW0 hvm.symm (hgood w (List.mem_cons_of_mem _ (List.mem_cons_of_mem _ hw))) (hat w hw)
  have hk' : (Cond.classLink own ik cls).before args s' = true := vx_ot_at hW0 hvm.symm (hgood _ List.mem_cons_self) hk
  have hini' : (Cond.initialized cls).before args s' = true := vx_ot_at hW0 hvm.symm (hgood _ (List.mem_cons_of_mem _ List.mem_cons_self)) hini
  have hU' : vx_Zq Bundle.tN "UNASSIGNED_STACK" Bundle.steD A s' s'.heap := by rw [hhp]; exact vx_Zq.moved hW0.alike (hU.kept hS.2.1)
  have hN' : vx_Zq Bundle.tN "SUPPRESSED_SENTINEL" Bundle.listD A s' s'.heap := by rw [hhp]; exact vx_Zq.moved hW0.alike (hN.kept hS.2.1)
  have h : ∀ w ∈ Bundle.ownAtoms own ic cls names, w.before args s' = true := vx_own hat' (vx_isRefq hU'.1) (vx_isRefq hN'.1) hU'.2.word hN'.2.word
  have hown' : s'.vm.findClass own = some m.cls := by rw [hvm]; exact hown
  have hins : (Cond.instantiable cls 6).before args s' = true := h _ (by simp [Bundle.ownAtoms])
  obtain ⟨vm₁, cX, kX, hfX, hkX, -, -, X₁, st1⟩ := Y.newCold hexec (own := own) (C := cls) (index := ik) (n := 6) hown' hk' hins hini'
    (g := F0 m pc ls rest) rfl (by rw [hb]; exact d0) (Nat.le_refl _) (Nat.le_refl _)
  generalize hT1 : (T.setVm vm₁).pushCell { cls := cX, slots := kX.instanceTypes.map defaultValue, vm := .none } = T1 at X₁ st1
  have hcat : (Value.ref T.heap.size).category = 1 := rfl
  have hcellA : T1.heap[T.heap.size]? = some (freshCell cX kX) := by rw [← hT1]; exact State.heap_pushCell_size _ _
  have d3' : decode c.code (pc + 3) = .ok (.dup, 1) := by rw [hb]; exact d3
  have d4' : decode c.code (pc + 4) = .ok (.ldc_w is, 3) := by rw [hb]; exact d4
  have hstr' : vk_R own is text sa s' := vk_R.warm hW0 hstr
  obtain ⟨U, hsteps, hrun, hend, hW, hsame, ce, hce, hO⟩ := X₁.ctorThrowS hexec htr (own := own) (cls := cls) (names := names) (ic := ic) hown' hcls hnames h (fun x hx => nomatch hx) hfX hkX hcellA (by rw [hhp, hT]; exact Nat.le_refl _) (msg := .ref sa) rfl
    (g := { method := m, pc := pc + 7, locals := ls, stack := .ref sa :: .ref T.heap.size :: .ref T.heap.size :: rest, locked := none }) rfl hsize rfl rfl (rest := rest) rfl
    (by rw [hb]; exact d7) (by rw [hb]; exact d10) hout hRframes (by simp only [List.map_cons, List.sum_cons, hcat]; omega) hlocks
  obtain ⟨f1, f2⟩ := vx_frame hsame
  rw [hhp] at f1 f2
  have hWs : s.WarmedH U.vm := State.WarmedH.trans hW0 hW
  have hcl : s.vm.findClass cls = some ce.cls := by
    have h9 := hO.cls
    rw [hvm] at h9
    exact h9
  have hall : s.sameButNew ({ U with vm := s.vm } : State) locs mc ms := by
    subst hA
    obtain ⟨e1, e2⟩ := hsame
    rw [State.setFrames_setFrames] at e1
    have h2 : (T.setVm s.vm).sameButNew ({ U with vm := s.vm } : State) [] (0 + 1) (0 + 6) := ⟨e1, e2⟩
    have h3 := X.same.trans h2
    rw [List.append_nil] at h3
    exact h3.mono hc hs
  refine ⟨U, ?_, .threw T.heap.size, hrun, hend, Or.inr ⟨T.heap.size, rfl, cls, ce, locs, hx U hWs.alike f1 (fun q hq => f2 q hq (fun z hz => nomatch hz)), hce, hO.vm, hcl, hWs, hall, hf⟩⟩
  refine st1 _ ?_
  show Steps p.tables e below (T1.setTop { method := m, pc := pc + 3, locals := ls, stack := .ref T.heap.size :: rest, locked := none }) _
  jvm_step X₁.here [X₁.here.top, hexec, d3', Value.category]
  exact X₁.ldcStringW hexec (own := own) (text := text) (index := is) (a := sa) hown' hstr'.1 hstr'.2
    (g := { method := m, pc := pc + 4, locals := ls, stack := .ref T.heap.size :: .ref T.heap.size :: rest, locked := none }) rfl d4' _ hsteps
end Ends
section Bodies
variable {l : Launch}
theorem vx_ofW {y : MethodName} {ws ws' : List Cond} {rm : Room} {Pc : Array Value → State → Prop} {Qc : Array Value → State → Outcome → State → Prop} {XC : String → State → State → Prop} {mc ms : Nat} {free : Addr → Prop} {cc : ByteArray} {maxL : Nat} {ret : Option FieldType}
    (hy : plainName y.cls = true) (hw : ws = Cond.code y cc maxL ret :: ws')
    (body : ∀ p e s m args below meth c s₁, BodyLoose p l y (headSpec ws rm) cc maxL ret e s m args below meth c s₁ → c.maxLocals = maxL → (∀ x ∈ c.exceptionTable.toList, False) → Pc args s →
      W p l e (headSpec ws rm).room s m args below meth c s.heap [] 0 0 (vx_MQ below Qc XC args s mc ms free) (entryFrame m args maxL)) : vx_Met l y ws rm Pc Qc XC mc ms free := by
  refine MetFree.of_bodyS (code := cc) (maxLocals := maxL) (ret := ret) hy ?_ ?_
  · intro args s m h hn
    obtain ⟨meth, c, h1, h2, h3, h4, h5, h6, -, -⟩ := Cond.code_spec hn (atoms_spec (ws := ws) h _ (by rw [hw]; exact List.mem_cons_self))
    exact ⟨meth, c, h1, h2, h3, h4, h5, h6⟩
  · intro p e s m args below meth c s₁ B hml hP _
    have hh0 : s₁.heap = s.heap := by rw [B.state]; rfl
    have ht : ∀ x ∈ c.exceptionTable.toList, False := by
      obtain ⟨meth9, c9, h1, h2, -, -, -, -, h7, -⟩ := Cond.code_spec B.named (atoms_spec (ws := ws) B.pre _ (by rw [hw]; exact List.mem_cons_self))
      cases Option.some.inj (h1.symm.trans B.method)
      cases Option.some.inj (h2.symm.trans (Stand.of_body B).code)
      intro x hx
      rw [Array.isEmpty_iff.mp h7] at hx
      cases hx
    obtain ⟨t, a1, o, b1, b2, b3⟩ := body p e s m args below meth c s₁ B hml ht hP s₁ hh0 (Stand.of_body B)
    exact ⟨t, o, a1, b1, b2, b3⟩
/-- the table of a body with handlers -/
theorem vx_table {p : Program} {x y : MethodName} {S : Spec} {cc bytes : ByteArray} {maxL maxL' : Nat} {ret ret' : Option FieldType} {e : Env} {s s₁ : State} {m : MethodId} {args : Array Value} {below : List Frame} {meth : Method} {c : Code} {hh : List (Nat × Nat × Nat × Nat)}
    (B : BodyLoose p l y S cc maxL ret e s m args below meth c s₁) (h : (Cond.codeWith y bytes maxL' ret' hh).before args s = true) : c.exceptionTable.toList = tableOf hh := by
  obtain ⟨m9, meth9, c9, hn9, h1, h2, -, -, h6, -⟩ := Cond.codeWith_spec h
  cases Option.some.inj (hn9.symm.trans B.named)
  cases Option.some.inj (h1.symm.trans B.method)
  cases Option.some.inj (h2.symm.trans (Stand.of_body B).code)
  rw [← h6, table_eq]
end Bodies
end VXA
/-! ===== END ===== -/
/-! ===== BEGIN a static call of a method with an exception table ===== -/
section VXS
variable {p : Program} {l : Launch} {e : Env} {R : Room} {s : State} {m : MethodId} {args : Array Value} {below : List Frame} {meth : Method} {c : Code} {T : State} {H : Heap} {locs : List Loc} {cells slots : Nat}
abbrev vx_CSW (R : Room) (s : State) (args : Array Value) (own : String) (index : Nat) (y : MethodName) (bytes : ByteArray) (maxL : Nat) (ret : Option FieldType) (hh : List (Nat × Nat × Nat × Nat)) (ws : List Cond) (rm : Room) (mc ms n : Nat) : Prop :=
  (rm.cells = mc ∧ rm.slots = ms ∧ rm.frames + 1 ≤ R.frames ∧ 8 + (maxL + 11) + rm.locals ≤ R.locals ∧ (∀ w ∈ ws, ∀ (a' : Array Value) (U : State), s.WarmedH U.vm → w.before a' U = true) ∧ Cond.codeWith y bytes maxL ret hh ∈ ws) ∧
  (Cond.codeWith y bytes maxL ret hh).before args s = true ∧ (Cond.initialized y.cls).before args s = true ∧ (y.cls ≠ "java/lang/invoke/MethodHandle" ∧ y.cls ≠ "java/lang/invoke/VarHandle") ∧
  (∀ sig, parseMethodDescriptor y.desc = some sig → n = sig.parameters.length) ∧ (Cond.methodLink own index y).before args s = true ∧ (Cond.static y).before args s = true
theorem vx_cwSW {own : String} {index maxL mc ms : Nat} {y : MethodName} {bytes : ByteArray} {ret : Option FieldType} {hh : List (Nat × Nat × Nat × Nat)} {Ts ws ws' : List Cond} {rm : Room} (n : Nat) (ht : ∀ w ∈ Ts, w.before args s = true) (hT : GoodIn Ts (va_wsS own index y ws)) (hw : ws = Cond.codeWith y bytes maxL ret hh :: ws') (hrc : rm.cells = mc) (hrs : rm.slots = ms)
    (hd : y.cls ≠ "java/lang/invoke/MethodHandle" ∧ y.cls ≠ "java/lang/invoke/VarHandle" ∧ (parseMethodDescriptor y.desc).map (fun d => d.parameters.length) = some n) (hR : rm.frames + 1 ≤ R.frames ∧ 8 + (maxL + 11) + rm.locals ≤ R.locals) :
    vx_CSW R s args own index y bytes maxL ret hh ws rm mc ms n := by
  have ok : ∀ w ∈ va_wsS own index y ws, w.before args s = true := fun w h => ht w (hT w h).1
  have hG : GoodIn Ts ws := fun w h => hT w (by unfold va_wsS; exact List.mem_append_right _ h)
  have hc : Cond.codeWith y bytes maxL ret hh ∈ ws := by rw [hw]; exact List.mem_cons_self
  refine ⟨⟨hrc, hrs, hR.1, hR.2, pay_in ht hG, hc⟩, ht _ (hG _ hc).1, ok _ (by simp [va_wsS]), ⟨hd.1, hd.2.1⟩, fun sig h => ?_, ok _ (by simp [va_wsS]), ok _ (by simp [va_wsS])⟩
  have h2 := hd.2.2
  rw [h] at h2
  exact (Option.some.inj h2).symm
theorem vx_callSW (X : Stand p l e R s m args below meth c T locs cells slots) (hexec : p.tables.exec = Jvm.exec) {own : String} {index : Nat} {y : MethodName} {bytes : ByteArray} {maxL : Nat} {ret : Option FieldType} {hh : List (Nat × Nat × Nat × Nat)}
    (hown : s.vm.findClass own = some m.cls) (hlink : (Cond.methodLink own index y).before args s = true) (hstat : (Cond.static y).before args s = true) (hinit : (Cond.initialized y.cls).before args s = true)
    (hcode : (Cond.codeWith y bytes maxL ret hh).before args s = true) (hy : y.cls ≠ "java/lang/invoke/MethodHandle" ∧ y.cls ≠ "java/lang/invoke/VarHandle")
    {W9 : Nat} {Pre : Pt → Array Value → Prop} {Post : Pt → Array Value → Option Value → Pt → Prop} (hK : Back l R p e below s args y 3 W9 Pre Post)
    {g : JFrame} (hg : g.method = m) (hsize : g.locals.size = c.maxLocals) {argsL rest : List Value} (hlen : ∀ sig, parseMethodDescriptor y.desc = some sig → argsL.length = sig.parameters.length)
    (hstack : g.stack = argsL.reverse ++ rest) (hW : 2 * g.monitorRoom + (rest.map fun v => v.category).sum ≤ W9) (hdg : decode c.code g.pc = .ok (.invokestatic index, 3))
    (hpre : ∀ vm₁, s.WarmedH vm₁ → Pre ⟨T.setVm vm₁, locs, cells, slots⟩ argsL.toArray) :
    ∃ (v : Option Value) (vm₁ : Vm) (B : Pt), s.WarmedH vm₁ ∧ Stand p l e R s m args below meth c B.U B.locs B.cells B.slots ∧ Post ⟨T.setVm vm₁, locs, cells, slots⟩ argsL.toArray v B ∧
      ∀ target, Steps p.tables e below (B.U.setTop { g with pc := g.pc + 3, stack := v.toList ++ rest }) target → Steps p.tables e below (T.setTop g) target := by
  obtain ⟨mk, methM, cM, hnamed, hmethM, -, -, -, -, -, -, hsigM⟩ := Cond.codeWith_spec hcode
  have hstatic : methM.isStatic = true := Cond.static_spec hnamed hmethM hstat
  obtain ⟨kP, hkP, -⟩ := className_of_methodNamed hnamed
  have hinitP : kP.init = .initialized := Cond.initialized_spec (findClass_of_methodNamed hnamed) hkP hinit
  obtain ⟨vm₁, X₁, hstep₁⟩ := X.invokestatic hexec hown hlink hnamed hmethM hstatic hkP hinitP hy (g := g) hg (argsL := argsL) (rest := rest) (hlen _ hsigM) hstack hdg
  obtain ⟨v, B, X', hpost, hsteps⟩ := hK m meth c ⟨T.setVm vm₁, locs, cells, slots⟩ { g with stack := rest } (.invokestatic index) mk argsL.toArray X₁ hg hsize hdg hW (X₁.named hnamed) (hpre vm₁ X₁.warmed)
  exact ⟨v, vm₁, B, X₁.warmed, X', hpost, fun target h => hstep₁ _ fun acts => by rw [doInvoke_state]; exact hsteps.trans h⟩
theorem vx_runSW {y : MethodName} {bytes cc : ByteArray} {maxL nL mc ms n index : Nat} {ret : Option FieldType} {hh : List (Nat × Nat × Nat × Nat)} {ws : List Cond} {rm : Room} {Pc : Array Value → State → Prop} {Qc : Array Value → State → Outcome → State → Prop} {free : Addr → Prop} {Ts : List Cond} {own : String} {As rest : List Value} {g : JFrame}
    (S : CallFix p m c cc nL s args Ts own) (hM : Met l y ws rm Pc Qc mc ms free) (cw : vx_CSW R s args own index y bytes maxL ret hh ws rm mc ms n) (hp : PreS s H Pc As)
    (hg : g.method = m) (hn : As.length = n) (hsize : g.locals.size = nL) (hstack : g.stack = As.reverse ++ rest) (hW : 2 * g.monitorRoom + (rest.map fun v => v.category).sum ≤ 8) (hdg : decode cc g.pc = .ok (.invokestatic index, 3)) (hf : cells + mc ≤ R.cells ∧ slots + ms ≤ R.slots) :
    va_Run p l e R s m args below meth c H locs cells slots mc ms g rest (Qc As.toArray) (free) := by
  obtain ⟨⟨hrc, hrs, hfr, hlo, hws, hcw⟩, hcode, hini, hy, hlen, hl, hstt⟩ := cw
  have hK : Back l R p e below s args y 3 8 (PreOf R mc ms Pc) (PostOf Qc mc ms free) := va_backW (hh := hh) (bytes := bytes) (maxL := maxL) (ret := ret) hM hp.1 hrc hrs hfr hlo hws hcw (fun a' U hW => word_at hW (Or.inl (by first | rfl | simp [Cond.onTables, Cond.keeps, Cond.steady])) hini)
  obtain ⟨hx, hb, hml, ho, -⟩ := S
  intro T hT X
  obtain ⟨v, vm₁, ⟨U', l2, c2, s2⟩, hW₁, X', ⟨g', mk, t, L, e1, e2, hq, h1, hL, h2, h3⟩, st⟩ := vx_callSW X hx (hh := hh) (bytes := bytes) (maxL := maxL) (ret := ret) ho hl hstt hini hcode hy hK hg (hsize.trans hml.symm) (argsL := As) (rest := rest) (fun sig h => hn.trans (hlen sig h)) hstack hW (by rw [hb]; exact hdg)
    (fun vm₁ hW₁ => ⟨hf.1, hf.2, hp.2 (T.setVm vm₁) hT hW₁⟩)
  dsimp only [Pt.U, Pt.locs, Pt.cells, Pt.slots] at X' e1 e2 h1 h2 h3 st
  subst h1; subst h2; subst h3
  exact ⟨v, (T.setVm vm₁).calling g' mk As.toArray, t, U', L, hT, X', hL, e1, e2, hq, st⟩
/-- not caught here, past rows that name other classes: it goes on to the caller -/
theorem vx_outP {p : Program} {l : Launch} {e : Env} {R : Room} {s : State} {m : MethodId} {args : Array Value} {below : List Frame} {meth : Method} {c : Code} {H : Heap} {locs : List Loc} {cells slots : Nat} {free : Addr → Prop} {ls : Array Slot} {rest : List Value} {Qc : Array Value → State → Outcome → State → Prop} {XC : String → State → State → Prop}
    {pc : Nat} {own E : String} {ce : Cell} {q : Addr} {mc ms : Nat} (hown : s.vm.findClass own = some m.cls) (hlocks : meth.locks = false)
    (hpass : ∀ z ∈ c.exceptionTable.toList, covers z pc = false ∨ (z.catchType ≠ 0 ∧ ∃ nm : String, (Cond.classLink own z.catchType nm).before args s = true ∧ va_Nc E nm s)) (hcell : H[q]? = some ce) (hv : ce.vm = .none) (hcl : s.vm.findClass E = some ce.cls)
    (hx : ∀ t : State, t.heap = H → s.vm.Alike t.vm → XC E s t) (hf : ∀ z ∈ locs, free z.base) (hc : cells ≤ mc) (hs : slots ≤ ms) :
    vx_W p l e R s m args below meth c H locs cells slots (vx_MQ below Qc XC args s mc ms free) (F0 m pc ls rest) q := by
  intro T hT X
  have hpl : e.platform.magicAccessors = ({} : Platform).magicAccessors := by rw [X.admits.platform]
  obtain ⟨vm', hW', X', st⟩ := X.outThrough hlocks q (g := F0 m pc ls rest) rfl rfl rfl (cell := ce) (by rw [hT]; exact hcell) (by rw [hv]; rfl)
    (by obtain ⟨k9, h9, -⟩ := Vm.findClass_spec hcl; exact ⟨k9, h9⟩) (fun z hz => by
      rcases hpass z hz with h | ⟨hz0, nm, hl1, hn1⟩
      · exact Or.inl h
      · obtain ⟨c6, hc6, hcl6⟩ := Cond.classLink_spec hown hl1 e.platform hpl
        obtain ⟨a8, b8, h1, h2, h3⟩ := hn1
        cases Option.some.inj (h1.symm.trans hcl)
        cases Option.some.inj (h2.symm.trans hc6)
        exact Or.inr ⟨hz0, _, hcl6, h3⟩)
  obtain ⟨g₀, hfr⟩ := X'.frames_eq
  have hcell9 : ((T.setVm vm').setFrames (.throwing q :: below)).heap[q]? = some ce := by
    show T.heap[q]? = some ce
    rw [hT]; exact hcell
  have hend : Ended ((T.setVm vm').setFrames (.throwing q :: below)) below (.threw q) := State.frames_setFrames _ (State.cur_lt_of_frames hfr)
  refine ⟨(T.setVm vm').setFrames (.throwing q :: below), ?_, .threw q, X'.here.running, hend, Or.inr ⟨q, rfl, E, ce, locs, hx _ hT (X'.ends _).1.alike, hcell9, hv, hcl, (X'.ends _).1, (X'.ends _).2.mono hc hs, hf⟩⟩
  rw [X.pushThrowing_eq]
  exact st
/-- a thing of a world lies in the heap -/
theorem vx_lt {D : va_G} {cl : List vw_C} {ws : va_W} {H1 : Heap} (h : va_P D cl ws H1) {k : Nat} {q : Nat × va_E} (hk : ws[k]? = some q) : q.1 < H1.size := (h k q hk).lt
end VXS
/-! ===== END ===== -/
/-! ===== BEGIN methods with a table of their own: called by a name, returning or throwing ===== -/
section VXH
/-! vx_backW, vx_callVX, vx_callSX, vx_callVW, vx_runVW, vx_runVX, vx_runSX, vx_ofWH follow the same proofs as their sisters above (Free/Laws.lean, Shelf42/LK1.lean); vx_outP calls Shelf42/NT130.lean (outThrough). -/
section
variable {l : Launch} {R : Room} {p : Program} {e : Env} {below : List Frame} {s : State} {sargs : Array Value} {y : MethodName} {len W9 : Nat}
theorem vx_backW {ws : List Cond} {rm : Room} {Pc : Array Value → State → Prop} {Qc : Array Value → State → Outcome → State → Prop} {XC : String → State → State → Prop} {mc ms : Nat} {free : Addr → Prop} {bytes : ByteArray} {maxL : Nat} {ret : Option FieldType} {hh : List (Nat × Nat × Nat × Nat)}
    (hM : vx_Met l y ws rm Pc Qc XC mc ms free) (hblind : FrameBlind Pc) (hrc : rm.cells = mc) (hrs : rm.slots = ms)
    (hframes : rm.frames + 1 ≤ R.frames) (hlocals : W9 + (maxL + 11) + rm.locals ≤ R.locals)
    (hws : ∀ w ∈ ws, ∀ a' U, s.WarmedH U.vm → w.before a' U = true) (hcode : Cond.codeWith y bytes maxL ret hh ∈ ws) (hinit : ∀ a' U, s.WarmedH U.vm → (Cond.initialized y.cls).before a' U = true) :
    vx_Back l R p e below s sargs y len W9 (PreOf R mc ms Pc) (PostOf Qc mc ms free) (vx_Post XC mc ms free) := by
  intro m meth c A g ig mk a X hg hsize hdg hW hn hp
  have h1 : (headSpec ws rm).pre.before a A.U = true := atoms_intro fun w hw => hws w hw _ _ X.warmed
  have h2 : (Cond.codeWith y bytes maxL ret hh).before a A.U = true := hws _ hcode _ _ X.warmed
  have h3 : (Cond.initialized y.cls).before a A.U = true := hinit _ _ X.warmed
  have h4 : A.cells + (headSpec ws rm).room.cells ≤ R.cells := by rw [show (headSpec ws rm).room.cells = mc from hrc]; exact hp.1
  have h5 : A.slots + (headSpec ws rm).room.slots ≤ R.slots := by rw [show (headSpec ws rm).room.slots = ms from hrs]; exact hp.2.1
  have hPc : Pc a (A.U.calling g mk a) := hblind _ _ _ _ hp.2.2
  obtain ⟨U, Ls, c0, s0⟩ := A
  dsimp only [Pt.U, Pt.locs, Pt.cells, Pt.slots] at h1 h2 h3 h4 h5 X hn hPc ⊢
  obtain ⟨m9, methY, cY, hn9, hmY, hcY, -, hlY, -⟩ := Cond.codeWith_spec h2
  cases Option.some.inj (hn9.symm.trans hn)
  obtain ⟨kY, hkY, -⟩ := className_of_methodNamed hn
  have hinitY : kY.init = .initialized := Cond.initialized_spec (findClass_of_methodNamed hn) hkY h3
  have h : At U g.method c below := by rw [hg]; exact X.here
  have hlocals9 : W9 + (maxL + 11) + (headSpec ws rm).room.locals ≤ R.locals := hlocals
  have happ : (headSpec ws rm).appliesLoose y e.platform (U.calling g mk a) = true :=
    Spec.appliesLoose_calling (g := g) h hdg hn hkY hinitY
      (X.room_calling (g := g) (R' := (headSpec ws rm).room) hsize hmY hcY hframes (by rw [hlY]; omega) h4 h5) h1
  obtain ⟨mid, hmid⟩ := h.above
  have hfr : (U.setTop g).frames = (.java g :: mid) ++ below := by rw [State.frames_setTop' g h.top, hmid]; rfl
  obtain ⟨o, s₂, hsteps, -, hend, hq⟩ := Steps.callFree hM p X.admits X.cas X.clock (acts := []) hfr happ hPc trivial
  have hq' : vx_Q Qc XC mc ms free a (U.calling g mk a) o s₂ := hq
  rw [State.frames_setTop' g h.top] at hend
  obtain ⟨g₀, hg0⟩ := Option.isSome_iff_exists.mp h.top
  obtain ⟨r, hr⟩ := State.topJava?_eq_some.mp hg0
  have hr' : (({ U with heap := s₂.heap, slotsUsed := s₂.slotsUsed } : State).setVm s₂.vm).frames = .java g₀ :: r := hr
  rcases hq' with ⟨hqc, L, hfe, hL⟩ | ⟨q, rfl, E, ce, L, hx, hce, hcv, hcl, hW₂, hsm, hL⟩
  · obtain ⟨⟨v, rfl⟩, hW₂, e2, q2, q3, q4, q5, q6⟩ := id hfe
    have e3 : s₂ = ({ (U.calling g mk a).setFrames s₂.frames with heap := s₂.heap, slotsUsed := s₂.slotsUsed } : State).setVm s₂.vm := by
      have : s₂ = ({ s₂ with vm := (U.calling g mk a).vm } : State).setVm s₂.vm := rfl
      rw [e2] at this
      exact this
    obtain ⟨c₂, i₂, len₂, hc₂, hd₂, hf₂⟩ := hend
    have hW' : U.WarmedH s₂.vm := hW₂
    have hcc : c₂ = c := by
      have h1 : s₂.code? g.method = U.code? g.method := by
        rw [State.code?_eq, State.code?_eq, hW'.alike.method?]
      exact Option.some.inj (hc₂.symm.trans (h1.trans h.code))
    subst hcc
    have hlen : len₂ = len := by rw [hdg] at hd₂; cases hd₂; rfl
    subst hlen
    have hs₂ : s₂ = (({ U with heap := s₂.heap, slotsUsed := s₂.slotsUsed } : State).setVm s₂.vm).setTop { g with pc := g.pc + len₂, stack := v.toList ++ g.stack } := by
      refine e3.trans ?_
      rw [hf₂, State.calling_eq h.top, State.setFrames_setFrames, State.setTop_of_frames _ hr', hr]
      rfl
    have hsame : U.sameButNew ({ U with heap := s₂.heap, slotsUsed := s₂.slotsUsed } : State) L mc ms := by
      refine ⟨?_, q2, q3, q4, q5, q6⟩
      obtain ⟨t, ht, -⟩ := State.frames_cons hr
      show ({ U with heap := s₂.heap, slotsUsed := s₂.slotsUsed } : State) = { U.setFrames U.frames with heap := s₂.heap, slotsUsed := s₂.slotsUsed }
      rw [State.setFrames_self ht]
    subst hg
    refine Or.inl ⟨v, ⟨(({ U with heap := s₂.heap, slotsUsed := s₂.slotsUsed } : State).setVm s₂.vm), Ls ++ L, c0 + mc, s0 + ms⟩,
      ⟨X.admits, X.cas, X.clock, X.frames, X.room, X.hears, X.method, X.code, (X.here.setHeapUsed s₂.heap s₂.slotsUsed).setVm hW'.alike, X.tail, State.WarmedH.trans X.warmed hW', X.limits, X.bytes, X.same.trans (hsame.setVm s.vm)⟩,
      ⟨g, mk, s₂, L, rfl, rfl, hqc, rfl, hL, rfl, rfl⟩, ?_⟩
    show Steps p.tables e below _ ((({ U with heap := s₂.heap, slotsUsed := s₂.slotsUsed } : State).setVm s₂.vm).setTop { g with pc := g.pc + len₂, stack := v.toList ++ g.stack })
    rw [← hs₂]
    exact hsteps
  · obtain ⟨e2, q2, q3, q4, q5, q6⟩ := id hsm
    have e3 : s₂ = ({ (U.calling g mk a).setFrames s₂.frames with heap := s₂.heap, slotsUsed := s₂.slotsUsed } : State).setVm s₂.vm := by
      have : s₂ = ({ s₂ with vm := (U.calling g mk a).vm } : State).setVm s₂.vm := rfl
      rw [e2] at this
      exact this
    have hf₂ : s₂.frames = .throwing q :: .java g :: U.frames.tail := hend
    have hW' : U.WarmedH s₂.vm := hW₂
    have hs₂ : s₂ = ((({ U with heap := s₂.heap, slotsUsed := s₂.slotsUsed } : State).setVm s₂.vm).setTop g).pushFrame (.throwing q) := by
      refine e3.trans ?_
      rw [hf₂, State.calling_eq h.top, State.setFrames_setFrames, State.pushFrame, State.frames_setTop _ hr', State.setTop_of_frames _ hr', State.setFrames_setFrames, hr]
      rfl
    have hsame : U.sameButNew ({ U with heap := s₂.heap, slotsUsed := s₂.slotsUsed } : State) L mc ms := by
      refine ⟨?_, q2, q3, q4, q5, q6⟩
      obtain ⟨t, ht, -⟩ := State.frames_cons hr
      show ({ U with heap := s₂.heap, slotsUsed := s₂.slotsUsed } : State) = { U.setFrames U.frames with heap := s₂.heap, slotsUsed := s₂.slotsUsed }
      rw [State.setFrames_self ht]
    subst hg
    refine Or.inr ⟨q, ⟨(({ U with heap := s₂.heap, slotsUsed := s₂.slotsUsed } : State).setVm s₂.vm), Ls ++ L, c0 + mc, s0 + ms⟩,
      ⟨X.admits, X.cas, X.clock, X.frames, X.room, X.hears, X.method, X.code, (X.here.setHeapUsed s₂.heap s₂.slotsUsed).setVm hW'.alike, X.tail, State.WarmedH.trans X.warmed hW', X.limits, X.bytes, X.same.trans (hsame.setVm s.vm)⟩,
      ⟨g, mk, s₂, L, E, ce, rfl, rfl, hx, hce, hcv, hcl, rfl, hL, rfl, rfl⟩, ?_⟩
    show Steps p.tables e below _ (((({ U with heap := s₂.heap, slotsUsed := s₂.slotsUsed } : State).setVm s₂.vm).setTop g).pushFrame (.throwing q))
    rw [← hs₂]
    exact hsteps
end
variable {p : Program} {l : Launch} {e : Env} {R : Room} {s : State} {m : MethodId} {args : Array Value} {below : List Frame} {meth : Method} {c : Code} {T : State} {H : Heap} {locs : List Loc} {cells slots : Nat}
theorem vx_callVX (X : Stand p l e R s m args below meth c T locs cells slots) (hexec : p.tables.exec = Jvm.exec) {own C : String} {index : Nat} {y : MethodName} {bytes : ByteArray} {maxL : Nat} {ret : Option FieldType} {hh : List (Nat × Nat × Nat × Nat)}
    (hown : s.vm.findClass own = some m.cls) (hlink : (Cond.methodLink own index y).before args s = true) (hinst : (Cond.instanceMethod y).before args s = true) (hsel : (Cond.selects C y y).before args s = true)
    (hcode : (Cond.codeWith y bytes maxL ret hh).before args s = true) (hy : y.cls ≠ "java/lang/invoke/MethodHandle" ∧ y.cls ≠ "java/lang/invoke/VarHandle")
    {W9 : Nat} {Pre : Pt → Array Value → Prop} {Post : Pt → Array Value → Option Value → Pt → Prop} {PostX : Pt → Array Value → Addr → Pt → Prop} (hK : vx_Back l R p e below s args y 3 W9 Pre Post PostX)
    {b : Addr} {cellB : Cell} (hcell : T.heap[b]? = some cellB) (hobj : cellB.vm.isStatics = false) (hcls : s.vm.findClass C = some cellB.cls)
    {g : JFrame} (hg : g.method = m) (hsize : g.locals.size = c.maxLocals) {argsL rest : List Value} (hlen : ∀ sig, parseMethodDescriptor y.desc = some sig → argsL.length = sig.parameters.length)
    (hstack : g.stack = argsL.reverse ++ .ref b :: rest) (hW : 2 * g.monitorRoom + (rest.map fun v => v.category).sum ≤ W9) (hdg : decode c.code g.pc = .ok (.invokevirtual index, 3))
    (hpre : ∀ vm₁, s.WarmedH vm₁ → Pre ⟨T.setVm vm₁, locs, cells, slots⟩ (Value.ref b :: argsL).toArray) :
    (∃ (v : Option Value) (vm₁ : Vm) (B : Pt), s.WarmedH vm₁ ∧ Stand p l e R s m args below meth c B.U B.locs B.cells B.slots ∧ Post ⟨T.setVm vm₁, locs, cells, slots⟩ (Value.ref b :: argsL).toArray v B ∧
      ∀ target, Steps p.tables e below (B.U.setTop { g with pc := g.pc + 3, stack := v.toList ++ rest }) target → Steps p.tables e below (T.setTop g) target) ∨
    (∃ (q : Addr) (vm₁ : Vm) (B : Pt), s.WarmedH vm₁ ∧ Stand p l e R s m args below meth c B.U B.locs B.cells B.slots ∧ PostX ⟨T.setVm vm₁, locs, cells, slots⟩ (Value.ref b :: argsL).toArray q B ∧
      Steps p.tables e below (T.setTop g) ((B.U.setTop { g with stack := rest }).pushFrame (.throwing q))) := by
  obtain ⟨mk, methM, hnamed, hmethM, hstM, habM⟩ := Cond.instanceMethod_spec hinst
  obtain ⟨m8, methM', cM, hn8, hmethM', -, -, -, -, -, -, hsigM⟩ := Cond.codeWith_spec hcode
  cases Option.some.inj (hn8.symm.trans hnamed)
  cases hmethM.symm.trans hmethM'
  obtain ⟨c2, r2, m2, q1, q2, q3, q4, kP, hkP, hkPi⟩ := Cond.selects_spec hsel
  cases hcls.symm.trans q1
  cases (State.methodFound?_of_named hnamed hy).symm.trans q2
  cases hnamed.symm.trans q3
  have hselP : selectMethod e.platform s.vm cellB.cls mk = .method mk := by rw [Launch.admits_selectMethod X.admits]; exact q4
  obtain ⟨vm₁, X₁, hstep₁⟩ := X.invokevirtual hexec hown hlink hnamed hmethM hstM hkP hkPi hy (a := b) (cell := cellB) hcell
    (fun z h => by rw [h] at hobj; cases hobj) hselP hmethM habM hkP hkPi (g := g) hg (argsL := argsL) (rest := rest) (hlen _ hsigM) hstack hdg
  rcases hK m meth c ⟨T.setVm vm₁, locs, cells, slots⟩ { g with stack := rest } (.invokevirtual index) mk (Value.ref b :: argsL).toArray X₁ hg hsize hdg hW (X₁.named hnamed) (hpre vm₁ X₁.warmed) with ⟨v, B, X', hpost, hsteps⟩ | ⟨q, B, X', hpost, hsteps⟩
  · exact Or.inl ⟨v, vm₁, B, X₁.warmed, X', hpost, fun target h => hstep₁ _ fun acts => by rw [doInvoke_state]; exact hsteps.trans h⟩
  · exact Or.inr ⟨q, vm₁, B, X₁.warmed, X', hpost, hstep₁ _ fun acts => by rw [doInvoke_state]; exact hsteps⟩
theorem vx_callSX (X : Stand p l e R s m args below meth c T locs cells slots) (hexec : p.tables.exec = Jvm.exec) {own : String} {index : Nat} {y : MethodName} {bytes : ByteArray} {maxL : Nat} {ret : Option FieldType} {hh : List (Nat × Nat × Nat × Nat)}
    (hown : s.vm.findClass own = some m.cls) (hlink : (Cond.methodLink own index y).before args s = true) (hstat : (Cond.static y).before args s = true) (hinit : (Cond.initialized y.cls).before args s = true)
    (hcode : (Cond.codeWith y bytes maxL ret hh).before args s = true) (hy : y.cls ≠ "java/lang/invoke/MethodHandle" ∧ y.cls ≠ "java/lang/invoke/VarHandle")
    {W9 : Nat} {Pre : Pt → Array Value → Prop} {Post : Pt → Array Value → Option Value → Pt → Prop} {PostX : Pt → Array Value → Addr → Pt → Prop} (hK : vx_Back l R p e below s args y 3 W9 Pre Post PostX)
    {g : JFrame} (hg : g.method = m) (hsize : g.locals.size = c.maxLocals) {argsL rest : List Value} (hlen : ∀ sig, parseMethodDescriptor y.desc = some sig → argsL.length = sig.parameters.length)
    (hstack : g.stack = argsL.reverse ++ rest) (hW : 2 * g.monitorRoom + (rest.map fun v => v.category).sum ≤ W9) (hdg : decode c.code g.pc = .ok (.invokestatic index, 3))
    (hpre : ∀ vm₁, s.WarmedH vm₁ → Pre ⟨T.setVm vm₁, locs, cells, slots⟩ argsL.toArray) :
    (∃ (v : Option Value) (vm₁ : Vm) (B : Pt), s.WarmedH vm₁ ∧ Stand p l e R s m args below meth c B.U B.locs B.cells B.slots ∧ Post ⟨T.setVm vm₁, locs, cells, slots⟩ argsL.toArray v B ∧
      ∀ target, Steps p.tables e below (B.U.setTop { g with pc := g.pc + 3, stack := v.toList ++ rest }) target → Steps p.tables e below (T.setTop g) target) ∨
    (∃ (q : Addr) (vm₁ : Vm) (B : Pt), s.WarmedH vm₁ ∧ Stand p l e R s m args below meth c B.U B.locs B.cells B.slots ∧ PostX ⟨T.setVm vm₁, locs, cells, slots⟩ argsL.toArray q B ∧
      Steps p.tables e below (T.setTop g) ((B.U.setTop { g with stack := rest }).pushFrame (.throwing q))) := by
  obtain ⟨mk, methM, cM, hnamed, hmethM, -, -, -, -, -, -, hsigM⟩ := Cond.codeWith_spec hcode
  have hstatic : methM.isStatic = true := Cond.static_spec hnamed hmethM hstat
  obtain ⟨kP, hkP, -⟩ := className_of_methodNamed hnamed
  have hinitP : kP.init = .initialized := Cond.initialized_spec (findClass_of_methodNamed hnamed) hkP hinit
  obtain ⟨vm₁, X₁, hstep₁⟩ := X.invokestatic hexec hown hlink hnamed hmethM hstatic hkP hinitP hy (g := g) hg (argsL := argsL) (rest := rest) (hlen _ hsigM) hstack hdg
  rcases hK m meth c ⟨T.setVm vm₁, locs, cells, slots⟩ { g with stack := rest } (.invokestatic index) mk argsL.toArray X₁ hg hsize hdg hW (X₁.named hnamed) (hpre vm₁ X₁.warmed) with ⟨v, B, X', hpost, hsteps⟩ | ⟨q, B, X', hpost, hsteps⟩
  · exact Or.inl ⟨v, vm₁, B, X₁.warmed, X', hpost, fun target h => hstep₁ _ fun acts => by rw [doInvoke_state]; exact hsteps.trans h⟩
  · exact Or.inr ⟨q, vm₁, B, X₁.warmed, X', hpost, hstep₁ _ fun acts => by rw [doInvoke_state]; exact hsteps⟩
theorem vx_callVW (X : Stand p l e R s m args below meth c T locs cells slots) (hexec : p.tables.exec = Jvm.exec) {own C : String} {index : Nat} {y : MethodName} {bytes : ByteArray} {maxL : Nat} {ret : Option FieldType} {hh : List (Nat × Nat × Nat × Nat)}
    (hown : s.vm.findClass own = some m.cls) (hlink : (Cond.methodLink own index y).before args s = true) (hinst : (Cond.instanceMethod y).before args s = true) (hsel : (Cond.selects C y y).before args s = true)
    (hcode : (Cond.codeWith y bytes maxL ret hh).before args s = true) (hy : y.cls ≠ "java/lang/invoke/MethodHandle" ∧ y.cls ≠ "java/lang/invoke/VarHandle")
    {W9 : Nat} {Pre : Pt → Array Value → Prop} {Post : Pt → Array Value → Option Value → Pt → Prop} (hK : Back l R p e below s args y 3 W9 Pre Post)
    {b : Addr} {cellB : Cell} (hcell : T.heap[b]? = some cellB) (hobj : cellB.vm.isStatics = false) (hcls : s.vm.findClass C = some cellB.cls)
    {g : JFrame} (hg : g.method = m) (hsize : g.locals.size = c.maxLocals) {argsL rest : List Value} (hlen : ∀ sig, parseMethodDescriptor y.desc = some sig → argsL.length = sig.parameters.length)
    (hstack : g.stack = argsL.reverse ++ .ref b :: rest) (hW : 2 * g.monitorRoom + (rest.map fun v => v.category).sum ≤ W9) (hdg : decode c.code g.pc = .ok (.invokevirtual index, 3))
    (hpre : ∀ vm₁, s.WarmedH vm₁ → Pre ⟨T.setVm vm₁, locs, cells, slots⟩ (Value.ref b :: argsL).toArray) :
    ∃ (v : Option Value) (vm₁ : Vm) (B : Pt), s.WarmedH vm₁ ∧ Stand p l e R s m args below meth c B.U B.locs B.cells B.slots ∧ Post ⟨T.setVm vm₁, locs, cells, slots⟩ (Value.ref b :: argsL).toArray v B ∧
      ∀ target, Steps p.tables e below (B.U.setTop { g with pc := g.pc + 3, stack := v.toList ++ rest }) target → Steps p.tables e below (T.setTop g) target := by
  obtain ⟨mk, methM, hnamed, hmethM, hstM, habM⟩ := Cond.instanceMethod_spec hinst
  obtain ⟨m8, methM', cM, hn8, hmethM', -, -, -, -, -, -, hsigM⟩ := Cond.codeWith_spec hcode
  cases Option.some.inj (hn8.symm.trans hnamed)
  cases hmethM.symm.trans hmethM'
  obtain ⟨c2, r2, m2, q1, q2, q3, q4, kP, hkP, hkPi⟩ := Cond.selects_spec hsel
  cases hcls.symm.trans q1
  cases (State.methodFound?_of_named hnamed hy).symm.trans q2
  cases hnamed.symm.trans q3
  have hselP : selectMethod e.platform s.vm cellB.cls mk = .method mk := by rw [Launch.admits_selectMethod X.admits]; exact q4
  obtain ⟨vm₁, X₁, hstep₁⟩ := X.invokevirtual hexec hown hlink hnamed hmethM hstM hkP hkPi hy (a := b) (cell := cellB) hcell
    (fun z h => by rw [h] at hobj; cases hobj) hselP hmethM habM hkP hkPi (g := g) hg (argsL := argsL) (rest := rest) (hlen _ hsigM) hstack hdg
  obtain ⟨v, B, X', hpost, hsteps⟩ := hK m meth c ⟨T.setVm vm₁, locs, cells, slots⟩ { g with stack := rest } (.invokevirtual index) mk (Value.ref b :: argsL).toArray X₁ hg hsize hdg hW (X₁.named hnamed) (hpre vm₁ X₁.warmed)
  exact ⟨v, vm₁, B, X₁.warmed, X', hpost, fun target h => hstep₁ _ fun acts => by rw [doInvoke_state]; exact hsteps.trans h⟩
abbrev vx_CVW (R : Room) (s : State) (args : Array Value) (own C : String) (index : Nat) (y : MethodName) (bytes : ByteArray) (maxL : Nat) (ret : Option FieldType) (hh : List (Nat × Nat × Nat × Nat)) (ws : List Cond) (rm : Room) (mc ms n : Nat) : Prop :=
  (rm.cells = mc ∧ rm.slots = ms ∧ rm.frames + 1 ≤ R.frames ∧ 8 + (maxL + 11) + rm.locals ≤ R.locals ∧ (∀ w ∈ ws, ∀ (a' : Array Value) (U : State), s.WarmedH U.vm → w.before a' U = true) ∧ Cond.codeWith y bytes maxL ret hh ∈ ws) ∧
  (Cond.codeWith y bytes maxL ret hh).before args s = true ∧ (Cond.initialized y.cls).before args s = true ∧ (y.cls ≠ "java/lang/invoke/MethodHandle" ∧ y.cls ≠ "java/lang/invoke/VarHandle") ∧
  (∀ sig, parseMethodDescriptor y.desc = some sig → n = sig.parameters.length) ∧ (Cond.methodLink own index y).before args s = true ∧ (Cond.instanceMethod y).before args s = true ∧ (Cond.selects C y y).before args s = true
theorem vx_cwVW {own C : String} {index maxL mc ms : Nat} {y : MethodName} {bytes : ByteArray} {ret : Option FieldType} {hh : List (Nat × Nat × Nat × Nat)} {Ts ws ws' : List Cond} {rm : Room} (n : Nat) (ht : ∀ w ∈ Ts, w.before args s = true) (hT : GoodIn Ts (wsV own index C y ws)) (hw : ws = Cond.codeWith y bytes maxL ret hh :: ws') (hrc : rm.cells = mc) (hrs : rm.slots = ms)
    (hd : y.cls = C ∧ y.cls ≠ "java/lang/invoke/MethodHandle" ∧ y.cls ≠ "java/lang/invoke/VarHandle" ∧ (parseMethodDescriptor y.desc).map (fun d => d.parameters.length) = some n) (hR : rm.frames + 1 ≤ R.frames ∧ 8 + (maxL + 11) + rm.locals ≤ R.locals) :
    vx_CVW R s args own C index y bytes maxL ret hh ws rm mc ms n := by
  obtain ⟨hC, hd⟩ := hd
  subst hC
  have ok : ∀ w ∈ wsV own index y.cls y ws, w.before args s = true := fun w h => ht w (hT w h).1
  have hG : GoodIn Ts ws := fun w h => hT w (by unfold wsV; exact List.mem_append_right _ h)
  have hc : Cond.codeWith y bytes maxL ret hh ∈ ws := by rw [hw]; exact List.mem_cons_self
  refine ⟨⟨hrc, hrs, hR.1, hR.2, pay_in ht hG, hc⟩, ht _ (hG _ hc).1, ok _ (by simp [wsV]), ⟨hd.1, hd.2.1⟩, fun sig h => ?_, ok _ (by simp [wsV]), ok _ (by simp [wsV]), ok _ (by simp [wsV])⟩
  have h2 := hd.2.2
  rw [h] at h2
  exact (Option.some.inj h2).symm
theorem vx_runVW {y : MethodName} {bytes cc : ByteArray} {maxL nL mc ms n index : Nat} {ret : Option FieldType} {hh : List (Nat × Nat × Nat × Nat)} {ws : List Cond} {rm : Room} {Pc : Array Value → State → Prop} {Qc : Array Value → State → Outcome → State → Prop} {free : Addr → Prop} {Ts : List Cond} {own C : String} {b : Addr} {As rest : List Value} {g : JFrame}
    (S : CallFix p m c cc nL s args Ts own) (hM : Met l y ws rm Pc Qc mc ms free) (cw : vx_CVW R s args own C index y bytes maxL ret hh ws rm mc ms n) (hp : PreV s H C b Pc As)
    (hg : g.method = m) (hn : As.length = n) (hsize : g.locals.size = nL) (hstack : g.stack = As.reverse ++ .ref b :: rest) (hW : 2 * g.monitorRoom + (rest.map fun v => v.category).sum ≤ 8) (hdg : decode cc g.pc = .ok (.invokevirtual index, 3)) (hf : cells + mc ≤ R.cells ∧ slots + ms ≤ R.slots) :
    va_Run p l e R s m args below meth c H locs cells slots mc ms g rest (Qc (Value.ref b :: As).toArray) free := by
  obtain ⟨⟨hrc, hrs, hfr, hlo, hws, hcw⟩, hcode, hini, hy, hlen, hl, hin, hse⟩ := cw
  have hK : Back l R p e below s args y 3 8 (PreOf R mc ms Pc) (PostOf Qc mc ms free) := va_backW (hh := hh) (bytes := bytes) (maxL := maxL) (ret := ret) hM hp.1 hrc hrs hfr hlo hws hcw (fun a' U hW => word_at hW (Or.inl (by first | rfl | simp [Cond.onTables, Cond.keeps, Cond.steady])) hini)
  obtain ⟨hx, hb, hml, ho, -⟩ := S
  obtain ⟨-, ⟨cellB, hcB, hoB, hclB⟩, hPc⟩ := hp
  intro T hT X
  obtain ⟨v, vm₁, ⟨U', l2, c2, s2⟩, hW₁, X', ⟨g', mk, t, L, e1, e2, hq, h1, hL, h2, h3⟩, st⟩ := vx_callVW X hx (C := C) (hh := hh) (bytes := bytes) (maxL := maxL) (ret := ret) ho hl hin hse hcode hy hK (by rw [hT]; exact hcB) hoB hclB hg (hsize.trans hml.symm) (argsL := As) (rest := rest) (fun sig h => hn.trans (hlen sig h)) hstack hW (by rw [hb]; exact hdg)
    (fun vm₁ hW₁ => ⟨hf.1, hf.2, hPc (T.setVm vm₁) hT hW₁⟩)
  dsimp only [Pt.U, Pt.locs, Pt.cells, Pt.slots] at X' e1 e2 h1 h2 h3 st
  subst h1; subst h2; subst h3
  exact ⟨v, (T.setVm vm₁).calling g' mk (Value.ref b :: As).toArray, t, U', L, hT, X', hL, e1, e2, hq, st⟩
section
variable {y : MethodName} {bytes cc : ByteArray} {maxL nL mc ms n index : Nat} {ret : Option FieldType} {ws : List Cond} {rm : Room} {Pc : Array Value → State → Prop} {Qc : Array Value → State → Outcome → State → Prop} {XC : String → State → State → Prop} {free : Addr → Prop} {Ts : List Cond} {own C : String} {b : Addr} {As rest : List Value} {g : JFrame}
theorem vx_runVX {hh : List (Nat × Nat × Nat × Nat)} (S : CallFix p m c cc nL s args Ts own) (hM : vx_Met l y ws rm Pc Qc XC mc ms free) (cw : vx_CVW R s args own C index y bytes maxL ret hh ws rm mc ms n) (hp : PreV s H C b Pc As)
    (hg : g.method = m) (hn : As.length = n) (hsize : g.locals.size = nL) (hstack : g.stack = As.reverse ++ .ref b :: rest) (hW : 2 * g.monitorRoom + (rest.map fun v => v.category).sum ≤ 8) (hdg : decode cc g.pc = .ok (.invokevirtual index, 3)) (hf : cells + mc ≤ R.cells ∧ slots + ms ≤ R.slots) :
    vx_Run p l e R s m args below meth c H locs cells slots mc ms g rest (Qc (Value.ref b :: As).toArray) XC free := by
  obtain ⟨⟨hrc, hrs, hfr, hlo, hws, hcw⟩, hcode, hini, hy, hlen, hl, hin, hse⟩ := cw
  have hK : vx_Back l R p e below s args y 3 8 (PreOf R mc ms Pc) (PostOf Qc mc ms free) (vx_Post XC mc ms free) := vx_backW (hh := hh) (bytes := bytes) (maxL := maxL) (ret := ret) hM hp.1 hrc hrs hfr hlo hws hcw (fun a' U hW => word_at hW (Or.inl (by first | rfl | simp [Cond.onTables, Cond.keeps, Cond.steady])) hini)
  obtain ⟨hx, hb, hml, ho, -⟩ := S
  obtain ⟨-, ⟨cellB, hcB, hoB, hclB⟩, hPc⟩ := hp
  intro T hT X
  rcases vx_callVX X hx (C := C) (hh := hh) (bytes := bytes) (maxL := maxL) (ret := ret) ho hl hin hse hcode hy hK (by rw [hT]; exact hcB) hoB hclB hg (hsize.trans hml.symm) (argsL := As) (rest := rest) (fun sig h => hn.trans (hlen sig h)) hstack hW (by rw [hb]; exact hdg)
    (fun vm₁ hW₁ => ⟨hf.1, hf.2, hPc (T.setVm vm₁) hT hW₁⟩) with ⟨v, vm₁, ⟨U', l2, c2, s2⟩, hW₁, X', ⟨g', mk, t, L, e1, e2, hq, h1, hL, h2, h3⟩, st⟩ | ⟨q, vm₁, ⟨U', l2, c2, s2⟩, hW₁, X', ⟨g', mk, t, L, E, ce, e1, e2, hq, hce, hcv, hcl, h1, hL, h2, h3⟩, st⟩
  · dsimp only [Pt.U, Pt.locs, Pt.cells, Pt.slots] at X' e1 e2 h1 h2 h3 st
    subst h1; subst h2; subst h3
    exact Or.inl ⟨v, (T.setVm vm₁).calling g' mk (Value.ref b :: As).toArray, t, U', L, hT, X', hL, e1, e2, hq, st⟩
  · dsimp only [Pt.U, Pt.locs, Pt.cells, Pt.slots] at X' e1 e2 h1 h2 h3 st hcl
    subst h1; subst h2; subst h3
    exact Or.inr ⟨q, (T.setVm vm₁).calling g' mk (Value.ref b :: As).toArray, t, U', L, E, ce, hT, X', hL, e1, e2, hq, hce, hcv, vx_cls hW₁ hcl, st⟩
theorem vx_runSX {hh : List (Nat × Nat × Nat × Nat)} (S : CallFix p m c cc nL s args Ts own) (hM : vx_Met l y ws rm Pc Qc XC mc ms free) (cw : vx_CSW R s args own index y bytes maxL ret hh ws rm mc ms n) (hp : PreS s H Pc As)
    (hg : g.method = m) (hn : As.length = n) (hsize : g.locals.size = nL) (hstack : g.stack = As.reverse ++ rest) (hW : 2 * g.monitorRoom + (rest.map fun v => v.category).sum ≤ 8) (hdg : decode cc g.pc = .ok (.invokestatic index, 3)) (hf : cells + mc ≤ R.cells ∧ slots + ms ≤ R.slots) :
    vx_Run p l e R s m args below meth c H locs cells slots mc ms g rest (Qc As.toArray) XC free := by
  obtain ⟨⟨hrc, hrs, hfr, hlo, hws, hcw⟩, hcode, hini, hy, hlen, hl, hstt⟩ := cw
  have hK : vx_Back l R p e below s args y 3 8 (PreOf R mc ms Pc) (PostOf Qc mc ms free) (vx_Post XC mc ms free) := vx_backW (hh := hh) (bytes := bytes) (maxL := maxL) (ret := ret) hM hp.1 hrc hrs hfr hlo hws hcw (fun a' U hW => word_at hW (Or.inl (by first | rfl | simp [Cond.onTables, Cond.keeps, Cond.steady])) hini)
  obtain ⟨hx, hb, hml, ho, -⟩ := S
  intro T hT X
  rcases vx_callSX X hx (hh := hh) (bytes := bytes) (maxL := maxL) (ret := ret) ho hl hstt hini hcode hy hK hg (hsize.trans hml.symm) (argsL := As) (rest := rest) (fun sig h => hn.trans (hlen sig h)) hstack hW (by rw [hb]; exact hdg)
    (fun vm₁ hW₁ => ⟨hf.1, hf.2, hp.2 (T.setVm vm₁) hT hW₁⟩) with ⟨v, vm₁, ⟨U', l2, c2, s2⟩, hW₁, X', ⟨g', mk, t, L, e1, e2, hq, h1, hL, h2, h3⟩, st⟩ | ⟨q, vm₁, ⟨U', l2, c2, s2⟩, hW₁, X', ⟨g', mk, t, L, E, ce, e1, e2, hq, hce, hcv, hcl, h1, hL, h2, h3⟩, st⟩
  · dsimp only [Pt.U, Pt.locs, Pt.cells, Pt.slots] at X' e1 e2 h1 h2 h3 st
    subst h1; subst h2; subst h3
    exact Or.inl ⟨v, (T.setVm vm₁).calling g' mk As.toArray, t, U', L, hT, X', hL, e1, e2, hq, st⟩
  · dsimp only [Pt.U, Pt.locs, Pt.cells, Pt.slots] at X' e1 e2 h1 h2 h3 st hcl
    subst h1; subst h2; subst h3
    exact Or.inr ⟨q, (T.setVm vm₁).calling g' mk As.toArray, t, U', L, E, ce, hT, X', hL, e1, e2, hq, hce, hcv, vx_cls hW₁ hcl, st⟩
end
end VXH
theorem vx_ofWH {l : Launch} {y : MethodName} {ws ws' : List Cond} {rm : Room} {Pc : Array Value → State → Prop} {Qc : Array Value → State → Outcome → State → Prop} {XC : String → State → State → Prop} {mc ms : Nat} {free : Addr → Prop} {cc : ByteArray} {maxL : Nat} {ret : Option FieldType} {hh : List (Nat × Nat × Nat × Nat)}
    (hy : plainName y.cls = true) (hw : ws = Cond.codeWith y cc maxL ret hh :: ws')
    (body : ∀ p e s m args below meth c s₁, BodyLoose p l y (headSpec ws rm) cc maxL ret e s m args below meth c s₁ → c.maxLocals = maxL → Pc args s →
      W p l e (headSpec ws rm).room s m args below meth c s.heap [] 0 0 (vx_MQ below Qc XC args s mc ms free) (entryFrame m args maxL)) : vx_Met l y ws rm Pc Qc XC mc ms free := by
  refine MetFree.of_bodyS (code := cc) (maxLocals := maxL) (ret := ret) hy ?_ ?_
  · intro args s m h hn
    obtain ⟨m9, meth, c, hn9, h1, h2, h3, h4, -, h5, h6, -⟩ := Cond.codeWith_spec (atoms_spec (ws := ws) h _ (by rw [hw]; exact List.mem_cons_self))
    cases hn.symm.trans hn9
    exact ⟨meth, c, h1, h2, h3, h4, h5, h6⟩
  · intro p e s m args below meth c s₁ B hml hP _
    have hh0 : s₁.heap = s.heap := by rw [B.state]; rfl
    obtain ⟨t, a1, o, b1, b2, b3⟩ := body p e s m args below meth c s₁ B hml hP s₁ hh0 (Stand.of_body B)
    exact ⟨t, o, a1, b1, b2, b3⟩
/-! ===== END ===== -/
end
section
/-! ===== BEGIN printed: names, fields, word lists, decode rows ===== -/
def RX0 : String := "Windlane$Borrower"
def TX0 : u_T := fun k => match k with
  | 0 => ("Windlane$Borrower", "skill", "I", true)
  | _ => ("Windlane$Borrower", "held", "LWindlane$Kite;", false)
def tyX0 : Nat → FieldType := fun k => match k with
  | 0 => .int
  | _ => .object "Windlane$Kite"
abbrev wsX00 : List Cond := u_ws RX0 TX0 2
theorem nmX0 : ∀ a, a < 2 → ∀ b, b < 2 → a ≠ b → (TX0 a).2.1 ≠ (TX0 b).2.1 := by decide +kernel
theorem tyX0_ok : ∀ k, k < 2 → parseFieldDescriptor (TX0 k).2.2.1 = some (tyX0 k) := by decide +kernel
abbrev cX0_init : ByteArray := prog_2_method_1_code
def yX0_init : MethodName := ⟨RX0, "<init>", "(I)V"⟩
abbrev cX0_canTake : ByteArray := prog_2_method_2_code
def yX0_canTake : MethodName := ⟨RX0, "canTake", "(LWindlane$Kite;)Z"⟩
def RX1 : String := "Windlane$Kite"
def TX1 : u_T := fun k => match k with
  | 0 => ("Windlane$Kite", "number", "I", true)
  | 1 => ("Windlane$Kite", "kind", "I", true)
  | 2 => ("Windlane$Kite", "area", "I", true)
  | 3 => ("Windlane$Kite", "weight", "I", false)
  | 4 => ("Windlane$Kite", "isTorn", "Z", false)
  | 5 => ("Windlane$Kite", "wetHours", "I", false)
  | 6 => ("Windlane$Kite", "borrower", "I", false)
  | 7 => ("Windlane$Kite", "lane", "I", false)
  | _ => ("Windlane$Kite", "length", "I", false)
def tyX1 : Nat → FieldType := fun k => match k with
  | 0 => .int
  | 1 => .int
  | 2 => .int
  | 3 => .int
  | 4 => .boolean
  | 5 => .int
  | 6 => .int
  | 7 => .int
  | _ => .int
abbrev wsX10 : List Cond := u_ws RX1 TX1 9
theorem nmX1 : ∀ a, a < 9 → ∀ b, b < 9 → a ≠ b → (TX1 a).2.1 ≠ (TX1 b).2.1 := by decide +kernel
theorem tyX1_ok : ∀ k, k < 9 → parseFieldDescriptor (TX1 k).2.2.1 = some (tyX1 k) := by decide +kernel
abbrev cX1_init : ByteArray := prog_3_method_1_code
def yX1_init : MethodName := ⟨RX1, "<init>", "(IIII)V"⟩
abbrev cX1_isFlying : ByteArray := prog_3_method_2_code
def yX1_isFlying : MethodName := ⟨RX1, "isFlying", "()Z"⟩
abbrev cX1_isLendable : ByteArray := prog_3_method_3_code
def yX1_isLendable : MethodName := ⟨RX1, "isLendable", "()Z"⟩
abbrev cX1_isReadyIn : ByteArray := prog_3_method_4_code
def yX1_isReadyIn : MethodName := ⟨RX1, "isReadyIn", "(I)Z"⟩
abbrev cX1_holdsIn : ByteArray := prog_3_method_5_code
def yX1_holdsIn : MethodName := ⟨RX1, "holdsIn", "(I)Z"⟩
abbrev cX1_pullIn : ByteArray := prog_3_method_6_code
def yX1_pullIn : MethodName := ⟨RX1, "pullIn", "(I)I"⟩
abbrev cX1_liftIn : ByteArray := prog_3_method_7_code
def yX1_liftIn : MethodName := ⟨RX1, "liftIn", "(I)I"⟩
abbrev cX1_pullByStepsTo : ByteArray := prog_3_method_8_code
def yX1_pullByStepsTo : MethodName := ⟨RX1, "pullByStepsTo", "(I)I"⟩
abbrev cX1_liftAddedBy : ByteArray := prog_3_method_9_code
def yX1_liftAddedBy : MethodName := ⟨RX1, "liftAddedBy", "(I)I"⟩
abbrev cX1_endIn : ByteArray := prog_3_method_11_code
def yX1_endIn : MethodName := ⟨RX1, "endIn", "(II)I"⟩
abbrev cX1_endAt : ByteArray := prog_3_method_12_code
def yX1_endAt : MethodName := ⟨RX1, "endAt", "(IIII)I"⟩
abbrev cX1_spendHour : ByteArray := prog_3_method_13_code
def yX1_spendHour : MethodName := ⟨RX1, "spendHour", "(Z)V"⟩
def RX2 : String := "Windlane"
def TX2 : u_T := fun k => match k with
  | 0 => ("Windlane", "kites", "[LWindlane$Kite;", true)
  | 1 => ("Windlane", "kiteCount", "I", false)
  | 2 => ("Windlane", "borrowers", "[LWindlane$Borrower;", true)
  | 3 => ("Windlane", "borrowerCount", "I", false)
  | 4 => ("Windlane", "flyers", "[LWindlane$Kite;", true)
  | 5 => ("Windlane", "windSpeed", "I", false)
  | 6 => ("Windlane", "windSide", "I", false)
  | 7 => ("Windlane", "isRaining", "Z", false)
  | _ => ("Windlane", "calledCount", "I", false)
def tyX2 : Nat → FieldType := fun k => match k with
  | 0 => .array (.object "Windlane$Kite")
  | 1 => .int
  | 2 => .array (.object "Windlane$Borrower")
  | 3 => .int
  | 4 => .array (.object "Windlane$Kite")
  | 5 => .int
  | 6 => .int
  | 7 => .boolean
  | _ => .int
abbrev wsX20 : List Cond := u_ws RX2 TX2 9
theorem nmX2 : ∀ a, a < 9 → ∀ b, b < 9 → a ≠ b → (TX2 a).2.1 ≠ (TX2 b).2.1 := by decide +kernel
theorem tyX2_ok : ∀ k, k < 9 → parseFieldDescriptor (TX2 k).2.2.1 = some (tyX2 k) := by decide +kernel
abbrev cX2_init : ByteArray := prog_1_method_1_code
def yX2_init : MethodName := ⟨RX2, "<init>", "()V"⟩
abbrev cX2_kite : ByteArray := prog_1_method_2_code
def yX2_kite : MethodName := ⟨RX2, "kite", "(III)I"⟩
abbrev cX2_patch : ByteArray := prog_1_method_3_code
def yX2_patch : MethodName := ⟨RX2, "patch", "(I)I"⟩
abbrev cX2_borrower : ByteArray := prog_1_method_4_code
def yX2_borrower : MethodName := ⟨RX2, "borrower", "(I)I"⟩
abbrev cX2_lend : ByteArray := prog_1_method_5_code
def yX2_lend : MethodName := ⟨RX2, "lend", "(II)V"⟩
abbrev cX2_giveBack : ByteArray := prog_1_method_6_code
def yX2_giveBack : MethodName := ⟨RX2, "giveBack", "(I)I"⟩
abbrev cX2_fly : ByteArray := prog_1_method_7_code
def yX2_fly : MethodName := ⟨RX2, "fly", "(III)I"⟩
abbrev cX2_land : ByteArray := prog_1_method_8_code
def yX2_land : MethodName := ⟨RX2, "land", "(I)I"⟩
abbrev cX2_wind : ByteArray := prog_1_method_9_code
def yX2_wind : MethodName := ⟨RX2, "wind", "(II)I"⟩
abbrev cX2_rain : ByteArray := prog_1_method_10_code
def yX2_rain : MethodName := ⟨RX2, "rain", "(Z)Z"⟩
abbrev cX2_pass : ByteArray := prog_1_method_11_code
def yX2_pass : MethodName := ⟨RX2, "pass", "(I)I"⟩
abbrev cX2_pull : ByteArray := prog_1_method_12_code
def yX2_pull : MethodName := ⟨RX2, "pull", "(II)I"⟩
abbrev cX2_pullAnew : ByteArray := prog_1_method_13_code
def yX2_pullAnew : MethodName := ⟨RX2, "pullAnew", "(II)I"⟩
abbrev cX2_window : ByteArray := prog_1_method_15_code
def yX2_window : MethodName := ⟨RX2, "window", "(IZ)I"⟩
abbrev cX2_about : ByteArray := prog_1_method_16_code
def yX2_about : MethodName := ⟨RX2, "about", "(II)I"⟩
abbrev cX2_lane : ByteArray := prog_1_method_17_code
def yX2_lane : MethodName := ⟨RX2, "lane", "(I)I"⟩
abbrev cX2_called : ByteArray := prog_1_method_18_code
def yX2_called : MethodName := ⟨RX2, "called", "()I"⟩
abbrev cX2_isWithin : ByteArray := prog_1_method_19_code
def yX2_isWithin : MethodName := ⟨RX2, "isWithin", "(III)Z"⟩
abbrev cX2_isSpeed : ByteArray := prog_1_method_20_code
def yX2_isSpeed : MethodName := ⟨RX2, "isSpeed", "(I)Z"⟩
abbrev cX2_isLane : ByteArray := prog_1_method_21_code
def yX2_isLane : MethodName := ⟨RX2, "isLane", "(I)Z"⟩
abbrev cX2_kiteAt : ByteArray := prog_1_method_22_code
def yX2_kiteAt : MethodName := ⟨RX2, "kiteAt", "(I)LWindlane$Kite;"⟩
abbrev cX2_borrowerAt : ByteArray := prog_1_method_23_code
def yX2_borrowerAt : MethodName := ⟨RX2, "borrowerAt", "(I)LWindlane$Borrower;"⟩
abbrev cX2_wouldCross : ByteArray := prog_1_method_24_code
def yX2_wouldCross : MethodName := ⟨RX2, "wouldCross", "(II)Z"⟩
abbrev cX2_clearLane : ByteArray := prog_1_method_25_code
def yX2_clearLane : MethodName := ⟨RX2, "clearLane", "(I)V"⟩
abbrev cX2_callDown : ByteArray := prog_1_method_26_code
def yX2_callDown : MethodName := ⟨RX2, "callDown", "(I)V"⟩
abbrev cX2_callDownUnheld : ByteArray := prog_1_method_27_code
def yX2_callDownUnheld : MethodName := ⟨RX2, "callDownUnheld", "()V"⟩
abbrev cX2_callDownCrossing : ByteArray := prog_1_method_28_code
def yX2_callDownCrossing : MethodName := ⟨RX2, "callDownCrossing", "()V"⟩
abbrev cX2_weakerLaneOfFirstCrossing : ByteArray := prog_1_method_29_code
def yX2_weakerLaneOfFirstCrossing : MethodName := ⟨RX2, "weakerLaneOfFirstCrossing", "()I"⟩
abbrev cX2_spendHour : ByteArray := prog_1_method_30_code
def yX2_spendHour : MethodName := ⟨RX2, "spendHour", "()V"⟩
abbrev cX2_countWet : ByteArray := prog_1_method_31_code
def yX2_countWet : MethodName := ⟨RX2, "countWet", "()I"⟩
def RX3 : String := "WindlaneModel"
def TX3 : u_T := fun k => match k with
  | _ => ("", "", "", false)
def tyX3 : Nat → FieldType := fun k => match k with
  | _ => .int
abbrev wsX30 : List Cond := u_ws RX3 TX3 0
theorem nmX3 : ∀ a, a < 0 → ∀ b, b < 0 → a ≠ b → (TX3 a).2.1 ≠ (TX3 b).2.1 := by decide +kernel
theorem tyX3_ok : ∀ k, k < 0 → parseFieldDescriptor (TX3 k).2.2.1 = some (tyX3 k) := by decide +kernel
def RJ0 : String := "java/lang/String"
def TJ0 : u_T := fun k => match k with
  | _ => ("", "", "", false)
def tyJ0 : Nat → FieldType := fun k => match k with
  | _ => .int
abbrev wsJ00 : List Cond := u_ws RJ0 TJ0 0
theorem nmJ0 : ∀ a, a < 0 → ∀ b, b < 0 → a ≠ b → (TJ0 a).2.1 ≠ (TJ0 b).2.1 := by decide +kernel
theorem tyJ0_ok : ∀ k, k < 0 → parseFieldDescriptor (TJ0 k).2.2.1 = some (tyJ0 k) := by decide +kernel
def RL : String := "WindlaneLaw"
abbrev cL_draw : ByteArray := method_2_code
def yL_draw : MethodName := ⟨RL, "draw", "([II)I"⟩
abbrev cL_kites : ByteArray := method_3_code
def yL_kites : MethodName := ⟨RL, "kites", "(LWindlane;III)I"⟩
abbrev cL_borrowers : ByteArray := method_4_code
def yL_borrowers : MethodName := ⟨RL, "borrowers", "(LWindlane;I)I"⟩
abbrev cL_patches : ByteArray := method_5_code
def yL_patches : MethodName := ⟨RL, "patches", "(LWindlane;I)I"⟩
abbrev cL_lends : ByteArray := method_6_code
def yL_lends : MethodName := ⟨RL, "lends", "(LWindlane;II)I"⟩
abbrev cL_backs : ByteArray := method_7_code
def yL_backs : MethodName := ⟨RL, "backs", "(LWindlane;I)I"⟩
abbrev cL_flies : ByteArray := method_8_code
def yL_flies : MethodName := ⟨RL, "flies", "(LWindlane;III)I"⟩
abbrev cL_lands : ByteArray := method_9_code
def yL_lands : MethodName := ⟨RL, "lands", "(LWindlane;I)I"⟩
abbrev cL_step : ByteArray := method_10_code
def yL_step : MethodName := ⟨RL, "step", "(LWindlane;[I[I[IIII)Z"⟩
abbrev cL_kiteOf : ByteArray := method_11_code
def yL_kiteOf : MethodName := ⟨RL, "kiteOf", "(LWindlane;[II)I"⟩
abbrev cL_isFlown : ByteArray := method_12_code
def yL_isFlown : MethodName := ⟨RL, "isFlown", "(LWindlane;[IIII)Z"⟩
abbrev cL_isPassed : ByteArray := method_13_code
def yL_isPassed : MethodName := ⟨RL, "isPassed", "(LWindlane;[III)Z"⟩
abbrev cL_isBlown : ByteArray := method_14_code
def yL_isBlown : MethodName := ⟨RL, "isBlown", "(LWindlane;[III)Z"⟩
abbrev cL_flying : ByteArray := method_15_code
def yL_flying : MethodName := ⟨RL, "flying", "(LWindlane;[I)I"⟩
abbrev cL_torn : ByteArray := method_16_code
def yL_torn : MethodName := ⟨RL, "torn", "(LWindlane;[I)I"⟩
abbrev cL_isWhole : ByteArray := method_17_code
def yL_isWhole : MethodName := ⟨RL, "isWhole", "(LWindlane;[II)Z"⟩
abbrev cL_law : ByteArray := code
def yL_law : MethodName := ⟨RL, "law", "([I)Z"⟩
def wsX0_init : List Cond := .code yX0_init cX0_init 2 none :: ([.methodLink RX0 1 objectInit, .instanceMethod objectInit, .code objectInit ⟨#[0xb1]⟩ 1 none, .fieldLink RX0 7 "Windlane$Borrower" "skill" "I"] ++ wsX00)
def wsX0_canTake : List Cond := .code yX0_canTake cX0_canTake 2 (some .boolean) :: ([.fieldLink RX0 13 "Windlane$Borrower" "held" "LWindlane$Kite;", .fieldLink RX0 7 "Windlane$Borrower" "skill" "I", .fieldLink RX0 17 "Windlane$Kite" "kind" "I"] ++ wsX00 ++ wsX10)
def wsX1_init : List Cond := .code yX1_init cX1_init 5 none :: ([.methodLink RX1 3 objectInit, .instanceMethod objectInit, .code objectInit ⟨#[0xb1]⟩ 1 none, .fieldLink RX1 9 "Windlane$Kite" "number" "I", .fieldLink RX1 15 "Windlane$Kite" "kind" "I", .fieldLink RX1 18 "Windlane$Kite" "area" "I", .fieldLink RX1 21 "Windlane$Kite" "weight" "I", .fieldLink RX1 24 "Windlane$Kite" "borrower" "I", .fieldLink RX1 27 "Windlane$Kite" "lane" "I"] ++ wsX10)
def wsX1_isFlying : List Cond := .code yX1_isFlying cX1_isFlying 1 (some .boolean) :: ([.fieldLink RX1 27 "Windlane$Kite" "lane" "I"] ++ wsX10)
def wsX1_isLendable : List Cond := .code yX1_isLendable cX1_isLendable 1 (some .boolean) :: ([.fieldLink RX1 24 "Windlane$Kite" "borrower" "I", .fieldLink RX1 30 "Windlane$Kite" "isTorn" "Z", .fieldLink RX1 34 "Windlane$Kite" "wetHours" "I"] ++ wsX10)
def wsX1_liftIn : List Cond := .code yX1_liftIn cX1_liftIn 2 (some .int) :: ([.fieldLink RX1 15 "Windlane$Kite" "kind" "I", .fieldLink RX1 18 "Windlane$Kite" "area" "I"] ++ wsX10)
def wsX1_pullIn : List Cond := .code yX1_pullIn cX1_pullIn 2 (some .int) :: ([.fieldLink RX1 21 "Windlane$Kite" "weight" "I", .methodLink RX1 53 yX1_liftIn, .instanceMethod yX1_liftIn, .selects RX1 yX1_liftIn yX1_liftIn, .initialized RX1, .code yX1_liftIn cX1_liftIn 2 (some .int), .fieldLink RX1 15 "Windlane$Kite" "kind" "I", .fieldLink RX1 18 "Windlane$Kite" "area" "I"] ++ wsX10)
def wsX2_isWithin : List Cond := .code yX2_isWithin cX2_isWithin 3 (some .boolean) :: ([])
def wsX1_holdsIn : List Cond := .code yX1_holdsIn cX1_holdsIn 2 (some .boolean) :: ([.methodLink RX1 45 yX1_pullIn, .instanceMethod yX1_pullIn, .selects RX1 yX1_pullIn yX1_pullIn, .initialized RX1, .code yX1_pullIn cX1_pullIn 2 (some .int), .fieldLink RX1 21 "Windlane$Kite" "weight" "I", .methodLink RX1 53 yX1_liftIn, .instanceMethod yX1_liftIn, .selects RX1 yX1_liftIn yX1_liftIn, .code yX1_liftIn cX1_liftIn 2 (some .int), .fieldLink RX1 15 "Windlane$Kite" "kind" "I", .fieldLink RX1 18 "Windlane$Kite" "area" "I", .static yX2_isWithin, .initialized RX2, .code yX2_isWithin cX2_isWithin 3 (some .boolean)] ++ wsX10)
def wsX1_isReadyIn_r1 : List Cond := [Cond.fieldLink RX1 24 "Windlane$Kite" "borrower" "I", Cond.fieldLink RX1 30 "Windlane$Kite" "isTorn" "Z", Cond.methodLink RX1 37 yX1_isFlying, Cond.instanceMethod yX1_isFlying, Cond.selects RX1 yX1_isFlying yX1_isFlying, Cond.initialized RX1, Cond.code yX1_isFlying cX1_isFlying 1 (some .boolean), Cond.fieldLink RX1 27 "Windlane$Kite" "lane" "I", Cond.methodLink RX1 41 yX1_holdsIn, Cond.instanceMethod yX1_holdsIn, Cond.selects RX1 yX1_holdsIn yX1_holdsIn, Cond.code yX1_holdsIn cX1_holdsIn 2 (some .boolean), Cond.methodLink RX1 45 yX1_pullIn, Cond.instanceMethod yX1_pullIn, Cond.selects RX1 yX1_pullIn yX1_pullIn, Cond.code yX1_pullIn cX1_pullIn 2 (some .int), Cond.fieldLink RX1 21 "Windlane$Kite" "weight" "I", Cond.methodLink RX1 53 yX1_liftIn, Cond.instanceMethod yX1_liftIn, Cond.selects RX1 yX1_liftIn yX1_liftIn, Cond.code yX1_liftIn cX1_liftIn 2 (some .int), Cond.fieldLink RX1 15 "Windlane$Kite" "kind" "I", Cond.fieldLink RX1 18 "Windlane$Kite" "area" "I", Cond.static yX2_isWithin]
def wsX1_isReadyIn_r2 : List Cond := [Cond.initialized RX2, Cond.code yX2_isWithin cX2_isWithin 3 (some .boolean)]
def wsX1_isReadyIn : List Cond := .code yX1_isReadyIn cX1_isReadyIn 2 (some .boolean) :: ((wsX1_isReadyIn_r1 ++ wsX1_isReadyIn_r2) ++ wsX10)
def wsX1_liftAddedBy : List Cond := .code yX1_liftAddedBy cX1_liftAddedBy 2 (some .int) :: ([.fieldLink RX1 15 "Windlane$Kite" "kind" "I", .fieldLink RX1 18 "Windlane$Kite" "area" "I"] ++ wsX10)
def wsX1_pullByStepsTo : List Cond := .code yX1_pullByStepsTo cX1_pullByStepsTo 4 (some .int) :: ([.fieldLink RX1 21 "Windlane$Kite" "weight" "I", .methodLink RX1 56 yX1_liftAddedBy, .instanceMethod yX1_liftAddedBy, .selects RX1 yX1_liftAddedBy yX1_liftAddedBy, .initialized RX1, .code yX1_liftAddedBy cX1_liftAddedBy 2 (some .int), .fieldLink RX1 15 "Windlane$Kite" "kind" "I", .fieldLink RX1 18 "Windlane$Kite" "area" "I"] ++ wsX10)
def wsX1_endAt : List Cond := .code yX1_endAt cX1_endAt 7 (some .int) :: ([.methodLink RX1 45 yX1_pullIn, .instanceMethod yX1_pullIn, .selects RX1 yX1_pullIn yX1_pullIn, .initialized RX1, .code yX1_pullIn cX1_pullIn 2 (some .int), .fieldLink RX1 21 "Windlane$Kite" "weight" "I", .methodLink RX1 53 yX1_liftIn, .instanceMethod yX1_liftIn, .selects RX1 yX1_liftIn yX1_liftIn, .code yX1_liftIn cX1_liftIn 2 (some .int), .fieldLink RX1 15 "Windlane$Kite" "kind" "I", .fieldLink RX1 18 "Windlane$Kite" "area" "I"] ++ wsX10)
def wsX1_endIn : List Cond := .code yX1_endIn cX1_endIn 3 (some .int) :: ([.fieldLink RX1 27 "Windlane$Kite" "lane" "I", .fieldLink RX1 60 "Windlane$Kite" "length" "I", .methodLink RX1 63 yX1_endAt, .instanceMethod yX1_endAt, .selects RX1 yX1_endAt yX1_endAt, .initialized RX1, .code yX1_endAt cX1_endAt 7 (some .int), .methodLink RX1 45 yX1_pullIn, .instanceMethod yX1_pullIn, .selects RX1 yX1_pullIn yX1_pullIn, .code yX1_pullIn cX1_pullIn 2 (some .int), .fieldLink RX1 21 "Windlane$Kite" "weight" "I", .methodLink RX1 53 yX1_liftIn, .instanceMethod yX1_liftIn, .selects RX1 yX1_liftIn yX1_liftIn, .code yX1_liftIn cX1_liftIn 2 (some .int), .fieldLink RX1 15 "Windlane$Kite" "kind" "I", .fieldLink RX1 18 "Windlane$Kite" "area" "I"] ++ wsX10)
def wsX1_spendHour : List Cond := .code yX1_spendHour cX1_spendHour 2 none :: ([.fieldLink RX1 34 "Windlane$Kite" "wetHours" "I", .methodLink RX1 37 yX1_isFlying, .instanceMethod yX1_isFlying, .selects RX1 yX1_isFlying yX1_isFlying, .initialized RX1, .code yX1_isFlying cX1_isFlying 1 (some .boolean), .fieldLink RX1 27 "Windlane$Kite" "lane" "I"] ++ wsX10)
def wsX2_init : List Cond := .code yX2_init cX2_init 1 none :: ([.methodLink RX2 3 objectInit, .instanceMethod objectInit, .code objectInit ⟨#[0xb1]⟩ 1 none, .classLink RX2 9 RX1, .fieldLink RX2 11 "Windlane" "kites" "[LWindlane$Kite;", .classLink RX2 15 RX0, .fieldLink RX2 17 "Windlane" "borrowers" "[LWindlane$Borrower;", .fieldLink RX2 21 "Windlane" "flyers" "[LWindlane$Kite;"] ++ wsX20)
def wsX2_kite_r1 : List Cond := [Cond.classLink RX2 28 "java/lang/IllegalArgumentException", Cond.initialized "java/lang/IllegalArgumentException", Cond.classLink RX2 39 "java/lang/IllegalStateException", Cond.initialized "java/lang/IllegalStateException", Cond.fieldLink RX2 35 "Windlane" "kiteCount" "I", Cond.fieldLink RX2 11 "Windlane" "kites" "[LWindlane$Kite;", Cond.classLink RX2 9 RX1, Cond.instantiable RX1 9, Cond.initialized RX1, Cond.methodLink RX2 24 yX2_isWithin, Cond.static yX2_isWithin, Cond.initialized RX2, Cond.code yX2_isWithin cX2_isWithin 3 (some .boolean), Cond.methodLink RX2 44 yX1_init, Cond.instanceMethod yX1_init, Cond.code yX1_init cX1_init 5 none, Cond.methodLink RX1 3 objectInit, Cond.instanceMethod objectInit, Cond.code objectInit ⟨#[0xb1]⟩ 1 none, Cond.fieldLink RX1 9 "Windlane$Kite" "number" "I", Cond.fieldLink RX1 15 "Windlane$Kite" "kind" "I", Cond.fieldLink RX1 18 "Windlane$Kite" "area" "I", Cond.fieldLink RX1 21 "Windlane$Kite" "weight" "I", Cond.fieldLink RX1 24 "Windlane$Kite" "borrower" "I"]
def wsX2_kite_r2 : List Cond := [Cond.fieldLink RX1 27 "Windlane$Kite" "lane" "I"]
def wsX2_kite : List Cond := .code yX2_kite cX2_kite 5 (some .int) :: ((wsX2_kite_r1 ++ wsX2_kite_r2) ++ wsX20 ++ wsX10 ++ (vx_atS RX2 32 "java/lang/IllegalArgumentException" ["java/lang/RuntimeException", "java/lang/Exception"]).filter goodWord ++ (vx_atS RX2 43 "java/lang/IllegalStateException" ["java/lang/RuntimeException", "java/lang/Exception"]).filter goodWord)
def wsX2_kiteAt : List Cond := .code yX2_kiteAt cX2_kiteAt 3 (some (.object "Windlane$Kite")) :: ([.classLink RX2 105 "java/lang/IndexOutOfBoundsException", .initialized "java/lang/IndexOutOfBoundsException", .fieldLink RX2 11 "Windlane" "kites" "[LWindlane$Kite;", .methodLink RX2 24 yX2_isWithin, .static yX2_isWithin, .initialized RX2, .code yX2_isWithin cX2_isWithin 3 (some .boolean)] ++ wsX20 ++ (vx_atS RX2 109 "java/lang/IndexOutOfBoundsException" ["java/lang/RuntimeException", "java/lang/Exception"]).filter goodWord)
def wsX2_patch : List Cond := .code yX2_patch cX2_patch 3 (some .int) :: ([.classLink RX2 39 "java/lang/IllegalStateException", .initialized "java/lang/IllegalStateException", .fieldLink RX2 51 "Windlane$Kite" "isTorn" "Z", .fieldLink RX2 57 "Windlane$Kite" "weight" "I", .methodLink RX2 47 yX2_kiteAt, .instanceMethod yX2_kiteAt, .selects RX2 yX2_kiteAt yX2_kiteAt, .initialized RX2, .code yX2_kiteAt cX2_kiteAt 3 (some (.object "Windlane$Kite")), .classLink RX2 105 "java/lang/IndexOutOfBoundsException", .initialized "java/lang/IndexOutOfBoundsException", .fieldLink RX2 11 "Windlane" "kites" "[LWindlane$Kite;", .methodLink RX2 24 yX2_isWithin, .static yX2_isWithin, .code yX2_isWithin cX2_isWithin 3 (some .boolean)] ++ wsX10 ++ wsX20 ++ (vx_atS RX2 43 "java/lang/IllegalStateException" ["java/lang/RuntimeException", "java/lang/Exception"]).filter goodWord ++ (vx_atS RX2 109 "java/lang/IndexOutOfBoundsException" ["java/lang/RuntimeException", "java/lang/Exception"]).filter goodWord)
def wsX2_borrower : List Cond := .code yX2_borrower cX2_borrower 3 (some .int) :: ([.classLink RX2 28 "java/lang/IllegalArgumentException", .initialized "java/lang/IllegalArgumentException", .classLink RX2 39 "java/lang/IllegalStateException", .initialized "java/lang/IllegalStateException", .fieldLink RX2 64 "Windlane" "borrowerCount" "I", .fieldLink RX2 17 "Windlane" "borrowers" "[LWindlane$Borrower;", .classLink RX2 15 RX0, .instantiable RX0 2, .initialized RX0, .methodLink RX2 24 yX2_isWithin, .static yX2_isWithin, .initialized RX2, .code yX2_isWithin cX2_isWithin 3 (some .boolean), .methodLink RX2 69 yX0_init, .instanceMethod yX0_init, .code yX0_init cX0_init 2 none, .methodLink RX0 1 objectInit, .instanceMethod objectInit, .code objectInit ⟨#[0xb1]⟩ 1 none, .fieldLink RX0 7 "Windlane$Borrower" "skill" "I"] ++ wsX20 ++ wsX00 ++ (vx_atS RX2 32 "java/lang/IllegalArgumentException" ["java/lang/RuntimeException", "java/lang/Exception"]).filter goodWord ++ (vx_atS RX2 43 "java/lang/IllegalStateException" ["java/lang/RuntimeException", "java/lang/Exception"]).filter goodWord)
def wsX2_borrowerAt : List Cond := .code yX2_borrowerAt cX2_borrowerAt 3 (some (.object "Windlane$Borrower")) :: ([.classLink RX2 105 "java/lang/IndexOutOfBoundsException", .initialized "java/lang/IndexOutOfBoundsException", .fieldLink RX2 17 "Windlane" "borrowers" "[LWindlane$Borrower;", .methodLink RX2 24 yX2_isWithin, .static yX2_isWithin, .initialized RX2, .code yX2_isWithin cX2_isWithin 3 (some .boolean)] ++ wsX20 ++ (vx_atS RX2 109 "java/lang/IndexOutOfBoundsException" ["java/lang/RuntimeException", "java/lang/Exception"]).filter goodWord)
def wsX2_lend_r1 : List Cond := [Cond.classLink RX2 39 "java/lang/IllegalStateException", Cond.initialized "java/lang/IllegalStateException", Cond.fieldLink RX2 86 "Windlane$Kite" "borrower" "I", Cond.fieldLink RX2 89 "Windlane$Borrower" "held" "LWindlane$Kite;", Cond.methodLink RX2 47 yX2_kiteAt, Cond.instanceMethod yX2_kiteAt, Cond.selects RX2 yX2_kiteAt yX2_kiteAt, Cond.initialized RX2, Cond.code yX2_kiteAt cX2_kiteAt 3 (some (.object "Windlane$Kite")), Cond.classLink RX2 105 "java/lang/IndexOutOfBoundsException", Cond.initialized "java/lang/IndexOutOfBoundsException", Cond.fieldLink RX2 11 "Windlane" "kites" "[LWindlane$Kite;", Cond.methodLink RX2 24 yX2_isWithin, Cond.static yX2_isWithin, Cond.code yX2_isWithin cX2_isWithin 3 (some .boolean), Cond.methodLink RX2 72 yX2_borrowerAt, Cond.instanceMethod yX2_borrowerAt, Cond.selects RX2 yX2_borrowerAt yX2_borrowerAt, Cond.code yX2_borrowerAt cX2_borrowerAt 3 (some (.object "Windlane$Borrower")), Cond.fieldLink RX2 17 "Windlane" "borrowers" "[LWindlane$Borrower;", Cond.methodLink RX2 76 yX1_isLendable, Cond.instanceMethod yX1_isLendable, Cond.selects RX1 yX1_isLendable yX1_isLendable, Cond.initialized RX1]
def wsX2_lend_r2 : List Cond := [Cond.code yX1_isLendable cX1_isLendable 1 (some .boolean), Cond.fieldLink RX1 24 "Windlane$Kite" "borrower" "I", Cond.fieldLink RX1 30 "Windlane$Kite" "isTorn" "Z", Cond.fieldLink RX1 34 "Windlane$Kite" "wetHours" "I", Cond.methodLink RX2 80 yX0_canTake, Cond.instanceMethod yX0_canTake, Cond.selects RX0 yX0_canTake yX0_canTake, Cond.initialized RX0, Cond.code yX0_canTake cX0_canTake 2 (some .boolean), Cond.fieldLink RX0 13 "Windlane$Borrower" "held" "LWindlane$Kite;", Cond.fieldLink RX0 7 "Windlane$Borrower" "skill" "I", Cond.fieldLink RX0 17 "Windlane$Kite" "kind" "I"]
def wsX2_lend : List Cond := .code yX2_lend cX2_lend 5 none :: ((wsX2_lend_r1 ++ wsX2_lend_r2) ++ wsX10 ++ wsX00 ++ wsX20 ++ (vx_atS RX2 43 "java/lang/IllegalStateException" ["java/lang/RuntimeException", "java/lang/Exception"]).filter goodWord ++ (vx_atS RX2 109 "java/lang/IndexOutOfBoundsException" ["java/lang/RuntimeException", "java/lang/Exception"]).filter goodWord)
def wsX2_giveBack : List Cond := .code yX2_giveBack cX2_giveBack 4 (some .int) :: ([.classLink RX2 39 "java/lang/IllegalStateException", .initialized "java/lang/IllegalStateException", .fieldLink RX2 89 "Windlane$Borrower" "held" "LWindlane$Kite;", .fieldLink RX2 86 "Windlane$Kite" "borrower" "I", .fieldLink RX2 98 "Windlane$Kite" "number" "I", .methodLink RX2 72 yX2_borrowerAt, .instanceMethod yX2_borrowerAt, .selects RX2 yX2_borrowerAt yX2_borrowerAt, .initialized RX2, .code yX2_borrowerAt cX2_borrowerAt 3 (some (.object "Windlane$Borrower")), .classLink RX2 105 "java/lang/IndexOutOfBoundsException", .initialized "java/lang/IndexOutOfBoundsException", .fieldLink RX2 17 "Windlane" "borrowers" "[LWindlane$Borrower;", .methodLink RX2 24 yX2_isWithin, .static yX2_isWithin, .code yX2_isWithin cX2_isWithin 3 (some .boolean), .methodLink RX2 93 yX1_isFlying, .instanceMethod yX1_isFlying, .selects RX1 yX1_isFlying yX1_isFlying, .initialized RX1, .code yX1_isFlying cX1_isFlying 1 (some .boolean), .fieldLink RX1 27 "Windlane$Kite" "lane" "I"] ++ wsX00 ++ wsX10 ++ wsX20 ++ (vx_atS RX2 43 "java/lang/IllegalStateException" ["java/lang/RuntimeException", "java/lang/Exception"]).filter goodWord ++ (vx_atS RX2 109 "java/lang/IndexOutOfBoundsException" ["java/lang/RuntimeException", "java/lang/Exception"]).filter goodWord)
def wsX2_isLane : List Cond := .code yX2_isLane cX2_isLane 1 (some .boolean) :: ([.methodLink RX2 24 yX2_isWithin, .static yX2_isWithin, .initialized RX2, .code yX2_isWithin cX2_isWithin 3 (some .boolean)])
def wsX2_wouldCross_r1 : List Cond := [Cond.fieldLink RX2 21 "Windlane" "flyers" "[LWindlane$Kite;", Cond.fieldLink RX2 112 "Windlane" "windSpeed" "I", Cond.fieldLink RX2 120 "Windlane" "windSide" "I", Cond.methodLink RX2 193 yX1_endIn, Cond.instanceMethod yX1_endIn, Cond.selects RX1 yX1_endIn yX1_endIn, Cond.initialized RX1, Cond.code yX1_endIn cX1_endIn 3 (some .int), Cond.fieldLink RX1 27 "Windlane$Kite" "lane" "I", Cond.fieldLink RX1 60 "Windlane$Kite" "length" "I", Cond.methodLink RX1 63 yX1_endAt, Cond.instanceMethod yX1_endAt, Cond.selects RX1 yX1_endAt yX1_endAt, Cond.code yX1_endAt cX1_endAt 7 (some .int), Cond.methodLink RX1 45 yX1_pullIn, Cond.instanceMethod yX1_pullIn, Cond.selects RX1 yX1_pullIn yX1_pullIn, Cond.code yX1_pullIn cX1_pullIn 2 (some .int), Cond.fieldLink RX1 21 "Windlane$Kite" "weight" "I", Cond.methodLink RX1 53 yX1_liftIn, Cond.instanceMethod yX1_liftIn, Cond.selects RX1 yX1_liftIn yX1_liftIn, Cond.code yX1_liftIn cX1_liftIn 2 (some .int), Cond.fieldLink RX1 15 "Windlane$Kite" "kind" "I"]
def wsX2_wouldCross_r2 : List Cond := [Cond.fieldLink RX1 18 "Windlane$Kite" "area" "I"]
def wsX2_wouldCross : List Cond := .code yX2_wouldCross cX2_wouldCross 6 (some .boolean) :: ((wsX2_wouldCross_r1 ++ wsX2_wouldCross_r2) ++ wsX20 ++ wsX10)
def wsX2_fly_r1 : List Cond := [Cond.classLink RX2 105 "java/lang/IndexOutOfBoundsException", Cond.initialized "java/lang/IndexOutOfBoundsException", Cond.classLink RX2 28 "java/lang/IllegalArgumentException", Cond.initialized "java/lang/IllegalArgumentException", Cond.classLink RX2 39 "java/lang/IllegalStateException", Cond.initialized "java/lang/IllegalStateException", Cond.fieldLink RX2 112 "Windlane" "windSpeed" "I", Cond.fieldLink RX2 21 "Windlane" "flyers" "[LWindlane$Kite;", Cond.fieldLink RX2 120 "Windlane" "windSide" "I", Cond.fieldLink RX2 133 "Windlane$Kite" "lane" "I", Cond.fieldLink RX2 136 "Windlane$Kite" "length" "I", Cond.methodLink RX2 47 yX2_kiteAt, Cond.instanceMethod yX2_kiteAt, Cond.selects RX2 yX2_kiteAt yX2_kiteAt, Cond.initialized RX2, Cond.code yX2_kiteAt cX2_kiteAt 3 (some (.object "Windlane$Kite")), Cond.fieldLink RX2 11 "Windlane" "kites" "[LWindlane$Kite;", Cond.methodLink RX2 24 yX2_isWithin, Cond.static yX2_isWithin, Cond.code yX2_isWithin cX2_isWithin 3 (some .boolean), Cond.methodLink RX2 101 yX2_isLane, Cond.static yX2_isLane, Cond.code yX2_isLane cX2_isLane 1 (some .boolean), Cond.methodLink RX2 115 yX1_isReadyIn]
def wsX2_fly_r2 : List Cond := [Cond.instanceMethod yX1_isReadyIn, Cond.selects RX1 yX1_isReadyIn yX1_isReadyIn, Cond.initialized RX1, Cond.code yX1_isReadyIn cX1_isReadyIn 2 (some .boolean), Cond.fieldLink RX1 24 "Windlane$Kite" "borrower" "I", Cond.fieldLink RX1 30 "Windlane$Kite" "isTorn" "Z", Cond.methodLink RX1 37 yX1_isFlying, Cond.instanceMethod yX1_isFlying, Cond.selects RX1 yX1_isFlying yX1_isFlying, Cond.code yX1_isFlying cX1_isFlying 1 (some .boolean), Cond.fieldLink RX1 27 "Windlane$Kite" "lane" "I", Cond.methodLink RX1 41 yX1_holdsIn, Cond.instanceMethod yX1_holdsIn, Cond.selects RX1 yX1_holdsIn yX1_holdsIn, Cond.code yX1_holdsIn cX1_holdsIn 2 (some .boolean), Cond.methodLink RX1 45 yX1_pullIn, Cond.instanceMethod yX1_pullIn, Cond.selects RX1 yX1_pullIn yX1_pullIn, Cond.code yX1_pullIn cX1_pullIn 2 (some .int), Cond.fieldLink RX1 21 "Windlane$Kite" "weight" "I", Cond.methodLink RX1 53 yX1_liftIn, Cond.instanceMethod yX1_liftIn, Cond.selects RX1 yX1_liftIn yX1_liftIn, Cond.code yX1_liftIn cX1_liftIn 2 (some .int)]
def wsX2_fly_r3 : List Cond := [Cond.fieldLink RX1 15 "Windlane$Kite" "kind" "I", Cond.fieldLink RX1 18 "Windlane$Kite" "area" "I", Cond.methodLink RX2 123 yX1_endAt, Cond.instanceMethod yX1_endAt, Cond.selects RX1 yX1_endAt yX1_endAt, Cond.code yX1_endAt cX1_endAt 7 (some .int), Cond.methodLink RX2 127 yX2_wouldCross, Cond.instanceMethod yX2_wouldCross, Cond.selects RX2 yX2_wouldCross yX2_wouldCross, Cond.code yX2_wouldCross cX2_wouldCross 6 (some .boolean), Cond.methodLink RX2 193 yX1_endIn, Cond.instanceMethod yX1_endIn, Cond.selects RX1 yX1_endIn yX1_endIn, Cond.code yX1_endIn cX1_endIn 3 (some .int), Cond.fieldLink RX1 60 "Windlane$Kite" "length" "I", Cond.methodLink RX1 63 yX1_endAt]
def wsX2_fly : List Cond := .code yX2_fly cX2_fly 6 (some .int) :: ((wsX2_fly_r1 ++ (wsX2_fly_r2 ++ wsX2_fly_r3)) ++ wsX20 ++ wsX10 ++ (vx_atS RX2 109 "java/lang/IndexOutOfBoundsException" ["java/lang/RuntimeException", "java/lang/Exception"]).filter goodWord ++ (vx_atS RX2 32 "java/lang/IllegalArgumentException" ["java/lang/RuntimeException", "java/lang/Exception"]).filter goodWord ++ (vx_atS RX2 43 "java/lang/IllegalStateException" ["java/lang/RuntimeException", "java/lang/Exception"]).filter goodWord)
def wsX2_clearLane : List Cond := .code yX2_clearLane cX2_clearLane 3 none :: ([.fieldLink RX2 21 "Windlane" "flyers" "[LWindlane$Kite;", .fieldLink RX2 133 "Windlane$Kite" "lane" "I", .methodLink RX2 101 yX2_isLane, .static yX2_isLane, .initialized RX2, .code yX2_isLane cX2_isLane 1 (some .boolean), .methodLink RX2 24 yX2_isWithin, .static yX2_isWithin, .code yX2_isWithin cX2_isWithin 3 (some .boolean)] ++ wsX20 ++ wsX10)
def wsX2_land : List Cond := .code yX2_land cX2_land 4 (some .int) :: ([.classLink RX2 39 "java/lang/IllegalStateException", .initialized "java/lang/IllegalStateException", .fieldLink RX2 133 "Windlane$Kite" "lane" "I", .methodLink RX2 47 yX2_kiteAt, .instanceMethod yX2_kiteAt, .selects RX2 yX2_kiteAt yX2_kiteAt, .initialized RX2, .code yX2_kiteAt cX2_kiteAt 3 (some (.object "Windlane$Kite")), .classLink RX2 105 "java/lang/IndexOutOfBoundsException", .initialized "java/lang/IndexOutOfBoundsException", .fieldLink RX2 11 "Windlane" "kites" "[LWindlane$Kite;", .methodLink RX2 24 yX2_isWithin, .static yX2_isWithin, .code yX2_isWithin cX2_isWithin 3 (some .boolean), .methodLink RX2 101 yX2_isLane, .static yX2_isLane, .code yX2_isLane cX2_isLane 1 (some .boolean), .methodLink RX2 141 yX2_clearLane, .instanceMethod yX2_clearLane, .selects RX2 yX2_clearLane yX2_clearLane, .code yX2_clearLane cX2_clearLane 3 none, .fieldLink RX2 21 "Windlane" "flyers" "[LWindlane$Kite;"] ++ wsX10 ++ wsX20 ++ (vx_atS RX2 43 "java/lang/IllegalStateException" ["java/lang/RuntimeException", "java/lang/Exception"]).filter goodWord ++ (vx_atS RX2 109 "java/lang/IndexOutOfBoundsException" ["java/lang/RuntimeException", "java/lang/Exception"]).filter goodWord)
def wsX2_isSpeed : List Cond := .code yX2_isSpeed cX2_isSpeed 1 (some .boolean) :: ([.methodLink RX2 24 yX2_isWithin, .static yX2_isWithin, .initialized RX2, .code yX2_isWithin cX2_isWithin 3 (some .boolean)])
def wsX2_callDown : List Cond := .code yX2_callDown cX2_callDown 2 none :: ([.fieldLink RX2 149 "Windlane" "calledCount" "I", .methodLink RX2 141 yX2_clearLane, .instanceMethod yX2_clearLane, .selects RX2 yX2_clearLane yX2_clearLane, .initialized RX2, .code yX2_clearLane cX2_clearLane 3 none, .fieldLink RX2 21 "Windlane" "flyers" "[LWindlane$Kite;", .fieldLink RX2 133 "Windlane$Kite" "lane" "I", .methodLink RX2 101 yX2_isLane, .static yX2_isLane, .code yX2_isLane cX2_isLane 1 (some .boolean), .methodLink RX2 24 yX2_isWithin, .static yX2_isWithin, .code yX2_isWithin cX2_isWithin 3 (some .boolean)] ++ wsX20 ++ wsX10)
def wsX2_callDownUnheld_r1 : List Cond := [Cond.fieldLink RX2 21 "Windlane" "flyers" "[LWindlane$Kite;", Cond.fieldLink RX2 112 "Windlane" "windSpeed" "I", Cond.fieldLink RX2 51 "Windlane$Kite" "isTorn" "Z", Cond.methodLink RX2 187 yX1_holdsIn, Cond.instanceMethod yX1_holdsIn, Cond.selects RX1 yX1_holdsIn yX1_holdsIn, Cond.initialized RX1, Cond.code yX1_holdsIn cX1_holdsIn 2 (some .boolean), Cond.methodLink RX1 45 yX1_pullIn, Cond.instanceMethod yX1_pullIn, Cond.selects RX1 yX1_pullIn yX1_pullIn, Cond.code yX1_pullIn cX1_pullIn 2 (some .int), Cond.fieldLink RX1 21 "Windlane$Kite" "weight" "I", Cond.methodLink RX1 53 yX1_liftIn, Cond.instanceMethod yX1_liftIn, Cond.selects RX1 yX1_liftIn yX1_liftIn, Cond.code yX1_liftIn cX1_liftIn 2 (some .int), Cond.fieldLink RX1 15 "Windlane$Kite" "kind" "I", Cond.fieldLink RX1 18 "Windlane$Kite" "area" "I", Cond.static yX2_isWithin, Cond.initialized RX2, Cond.code yX2_isWithin cX2_isWithin 3 (some .boolean), Cond.methodLink RX2 172 yX1_pullIn, Cond.methodLink RX2 203 yX2_callDown]
def wsX2_callDownUnheld_r2 : List Cond := [Cond.instanceMethod yX2_callDown, Cond.selects RX2 yX2_callDown yX2_callDown, Cond.code yX2_callDown cX2_callDown 2 none, Cond.fieldLink RX2 149 "Windlane" "calledCount" "I", Cond.methodLink RX2 141 yX2_clearLane, Cond.instanceMethod yX2_clearLane, Cond.selects RX2 yX2_clearLane yX2_clearLane, Cond.code yX2_clearLane cX2_clearLane 3 none, Cond.fieldLink RX2 133 "Windlane$Kite" "lane" "I", Cond.methodLink RX2 101 yX2_isLane, Cond.static yX2_isLane, Cond.code yX2_isLane cX2_isLane 1 (some .boolean), Cond.methodLink RX2 24 yX2_isWithin]
def wsX2_callDownUnheld : List Cond := .code yX2_callDownUnheld cX2_callDownUnheld 3 none :: ((wsX2_callDownUnheld_r1 ++ wsX2_callDownUnheld_r2) ++ wsX20 ++ wsX10)
def wsX2_weakerLaneOfFirstCrossing_r1 : List Cond := [Cond.fieldLink RX2 21 "Windlane" "flyers" "[LWindlane$Kite;", Cond.fieldLink RX2 112 "Windlane" "windSpeed" "I", Cond.fieldLink RX2 120 "Windlane" "windSide" "I", Cond.methodLink RX2 193 yX1_endIn, Cond.instanceMethod yX1_endIn, Cond.selects RX1 yX1_endIn yX1_endIn, Cond.initialized RX1, Cond.code yX1_endIn cX1_endIn 3 (some .int), Cond.fieldLink RX1 27 "Windlane$Kite" "lane" "I", Cond.fieldLink RX1 60 "Windlane$Kite" "length" "I", Cond.methodLink RX1 63 yX1_endAt, Cond.instanceMethod yX1_endAt, Cond.selects RX1 yX1_endAt yX1_endAt, Cond.code yX1_endAt cX1_endAt 7 (some .int), Cond.methodLink RX1 45 yX1_pullIn, Cond.instanceMethod yX1_pullIn, Cond.selects RX1 yX1_pullIn yX1_pullIn, Cond.code yX1_pullIn cX1_pullIn 2 (some .int), Cond.fieldLink RX1 21 "Windlane$Kite" "weight" "I", Cond.methodLink RX1 53 yX1_liftIn, Cond.instanceMethod yX1_liftIn, Cond.selects RX1 yX1_liftIn yX1_liftIn, Cond.code yX1_liftIn cX1_liftIn 2 (some .int), Cond.fieldLink RX1 15 "Windlane$Kite" "kind" "I"]
def wsX2_weakerLaneOfFirstCrossing_r2 : List Cond := [Cond.fieldLink RX1 18 "Windlane$Kite" "area" "I", Cond.methodLink RX2 172 yX1_pullIn]
def wsX2_weakerLaneOfFirstCrossing : List Cond := .code yX2_weakerLaneOfFirstCrossing cX2_weakerLaneOfFirstCrossing 5 (some .int) :: ((wsX2_weakerLaneOfFirstCrossing_r1 ++ wsX2_weakerLaneOfFirstCrossing_r2) ++ wsX20 ++ wsX10)
def wsX2_callDownCrossing_r1 : List Cond := [Cond.methodLink RX2 206 yX2_weakerLaneOfFirstCrossing, Cond.instanceMethod yX2_weakerLaneOfFirstCrossing, Cond.selects RX2 yX2_weakerLaneOfFirstCrossing yX2_weakerLaneOfFirstCrossing, Cond.initialized RX2, Cond.code yX2_weakerLaneOfFirstCrossing cX2_weakerLaneOfFirstCrossing 5 (some .int), Cond.fieldLink RX2 21 "Windlane" "flyers" "[LWindlane$Kite;", Cond.fieldLink RX2 112 "Windlane" "windSpeed" "I", Cond.fieldLink RX2 120 "Windlane" "windSide" "I", Cond.methodLink RX2 193 yX1_endIn, Cond.instanceMethod yX1_endIn, Cond.selects RX1 yX1_endIn yX1_endIn, Cond.initialized RX1, Cond.code yX1_endIn cX1_endIn 3 (some .int), Cond.fieldLink RX1 27 "Windlane$Kite" "lane" "I", Cond.fieldLink RX1 60 "Windlane$Kite" "length" "I", Cond.methodLink RX1 63 yX1_endAt, Cond.instanceMethod yX1_endAt, Cond.selects RX1 yX1_endAt yX1_endAt, Cond.code yX1_endAt cX1_endAt 7 (some .int), Cond.methodLink RX1 45 yX1_pullIn, Cond.instanceMethod yX1_pullIn, Cond.selects RX1 yX1_pullIn yX1_pullIn, Cond.code yX1_pullIn cX1_pullIn 2 (some .int), Cond.fieldLink RX1 21 "Windlane$Kite" "weight" "I"]
def wsX2_callDownCrossing_r2 : List Cond := [Cond.methodLink RX1 53 yX1_liftIn, Cond.instanceMethod yX1_liftIn, Cond.selects RX1 yX1_liftIn yX1_liftIn, Cond.code yX1_liftIn cX1_liftIn 2 (some .int), Cond.fieldLink RX1 15 "Windlane$Kite" "kind" "I", Cond.fieldLink RX1 18 "Windlane$Kite" "area" "I", Cond.methodLink RX2 172 yX1_pullIn, Cond.methodLink RX2 203 yX2_callDown, Cond.instanceMethod yX2_callDown, Cond.selects RX2 yX2_callDown yX2_callDown, Cond.code yX2_callDown cX2_callDown 2 none, Cond.fieldLink RX2 149 "Windlane" "calledCount" "I", Cond.methodLink RX2 141 yX2_clearLane, Cond.instanceMethod yX2_clearLane, Cond.selects RX2 yX2_clearLane yX2_clearLane, Cond.code yX2_clearLane cX2_clearLane 3 none, Cond.fieldLink RX2 133 "Windlane$Kite" "lane" "I", Cond.methodLink RX2 101 yX2_isLane, Cond.static yX2_isLane, Cond.code yX2_isLane cX2_isLane 1 (some .boolean), Cond.methodLink RX2 24 yX2_isWithin, Cond.static yX2_isWithin, Cond.code yX2_isWithin cX2_isWithin 3 (some .boolean)]
def wsX2_callDownCrossing : List Cond := .code yX2_callDownCrossing cX2_callDownCrossing 3 none :: ((wsX2_callDownCrossing_r1 ++ wsX2_callDownCrossing_r2) ++ wsX20 ++ wsX10)
def wsX2_wind_r1 : List Cond := [Cond.classLink RX2 28 "java/lang/IllegalArgumentException", Cond.initialized "java/lang/IllegalArgumentException", Cond.fieldLink RX2 112 "Windlane" "windSpeed" "I", Cond.fieldLink RX2 120 "Windlane" "windSide" "I", Cond.fieldLink RX2 149 "Windlane" "calledCount" "I", Cond.methodLink RX2 144 yX2_isSpeed, Cond.static yX2_isSpeed, Cond.initialized RX2, Cond.code yX2_isSpeed cX2_isSpeed 1 (some .boolean), Cond.methodLink RX2 24 yX2_isWithin, Cond.static yX2_isWithin, Cond.code yX2_isWithin cX2_isWithin 3 (some .boolean), Cond.methodLink RX2 152 yX2_callDownUnheld, Cond.instanceMethod yX2_callDownUnheld, Cond.selects RX2 yX2_callDownUnheld yX2_callDownUnheld, Cond.code yX2_callDownUnheld cX2_callDownUnheld 3 none, Cond.fieldLink RX2 21 "Windlane" "flyers" "[LWindlane$Kite;", Cond.fieldLink RX2 51 "Windlane$Kite" "isTorn" "Z", Cond.methodLink RX2 187 yX1_holdsIn, Cond.instanceMethod yX1_holdsIn, Cond.selects RX1 yX1_holdsIn yX1_holdsIn, Cond.initialized RX1, Cond.code yX1_holdsIn cX1_holdsIn 2 (some .boolean), Cond.methodLink RX1 45 yX1_pullIn]
def wsX2_wind_r2 : List Cond := [Cond.instanceMethod yX1_pullIn, Cond.selects RX1 yX1_pullIn yX1_pullIn, Cond.code yX1_pullIn cX1_pullIn 2 (some .int), Cond.fieldLink RX1 21 "Windlane$Kite" "weight" "I", Cond.methodLink RX1 53 yX1_liftIn, Cond.instanceMethod yX1_liftIn, Cond.selects RX1 yX1_liftIn yX1_liftIn, Cond.code yX1_liftIn cX1_liftIn 2 (some .int), Cond.fieldLink RX1 15 "Windlane$Kite" "kind" "I", Cond.fieldLink RX1 18 "Windlane$Kite" "area" "I", Cond.methodLink RX2 172 yX1_pullIn, Cond.methodLink RX2 203 yX2_callDown, Cond.instanceMethod yX2_callDown, Cond.selects RX2 yX2_callDown yX2_callDown, Cond.code yX2_callDown cX2_callDown 2 none, Cond.methodLink RX2 141 yX2_clearLane, Cond.instanceMethod yX2_clearLane, Cond.selects RX2 yX2_clearLane yX2_clearLane, Cond.code yX2_clearLane cX2_clearLane 3 none, Cond.fieldLink RX2 133 "Windlane$Kite" "lane" "I", Cond.methodLink RX2 101 yX2_isLane, Cond.static yX2_isLane, Cond.code yX2_isLane cX2_isLane 1 (some .boolean), Cond.methodLink RX2 155 yX2_callDownCrossing]
def wsX2_wind_r3 : List Cond := [Cond.instanceMethod yX2_callDownCrossing, Cond.selects RX2 yX2_callDownCrossing yX2_callDownCrossing, Cond.code yX2_callDownCrossing cX2_callDownCrossing 3 none, Cond.methodLink RX2 206 yX2_weakerLaneOfFirstCrossing, Cond.instanceMethod yX2_weakerLaneOfFirstCrossing, Cond.selects RX2 yX2_weakerLaneOfFirstCrossing yX2_weakerLaneOfFirstCrossing, Cond.code yX2_weakerLaneOfFirstCrossing cX2_weakerLaneOfFirstCrossing 5 (some .int), Cond.methodLink RX2 193 yX1_endIn, Cond.instanceMethod yX1_endIn, Cond.selects RX1 yX1_endIn yX1_endIn, Cond.code yX1_endIn cX1_endIn 3 (some .int), Cond.fieldLink RX1 27 "Windlane$Kite" "lane" "I", Cond.fieldLink RX1 60 "Windlane$Kite" "length" "I", Cond.methodLink RX1 63 yX1_endAt, Cond.instanceMethod yX1_endAt, Cond.selects RX1 yX1_endAt yX1_endAt, Cond.code yX1_endAt cX1_endAt 7 (some .int)]
def wsX2_wind : List Cond := .code yX2_wind cX2_wind 4 (some .int) :: ((wsX2_wind_r1 ++ (wsX2_wind_r2 ++ wsX2_wind_r3)) ++ wsX20 ++ wsX10 ++ (vx_atS RX2 32 "java/lang/IllegalArgumentException" ["java/lang/RuntimeException", "java/lang/Exception"]).filter goodWord)
def wsX2_rain : List Cond := .code yX2_rain cX2_rain 3 (some .boolean) :: ([.fieldLink RX2 158 "Windlane" "isRaining" "Z"] ++ wsX20)
def wsX2_spendHour : List Cond := .code yX2_spendHour cX2_spendHour 5 none :: ([.fieldLink RX2 11 "Windlane" "kites" "[LWindlane$Kite;", .fieldLink RX2 158 "Windlane" "isRaining" "Z", .methodLink RX2 209 yX1_spendHour, .instanceMethod yX1_spendHour, .selects RX1 yX1_spendHour yX1_spendHour, .initialized RX1, .code yX1_spendHour cX1_spendHour 2 none, .fieldLink RX1 34 "Windlane$Kite" "wetHours" "I", .methodLink RX1 37 yX1_isFlying, .instanceMethod yX1_isFlying, .selects RX1 yX1_isFlying yX1_isFlying, .code yX1_isFlying cX1_isFlying 1 (some .boolean), .fieldLink RX1 27 "Windlane$Kite" "lane" "I"] ++ wsX20 ++ wsX10)
def wsX2_countWet : List Cond := .code yX2_countWet cX2_countWet 6 (some .int) :: ([.fieldLink RX2 11 "Windlane" "kites" "[LWindlane$Kite;", .fieldLink RX2 190 "Windlane$Kite" "wetHours" "I"] ++ wsX20 ++ wsX10)
def wsX2_pass_r1 : List Cond := [Cond.classLink RX2 28 "java/lang/IllegalArgumentException", Cond.initialized "java/lang/IllegalArgumentException", Cond.methodLink RX2 24 yX2_isWithin, Cond.static yX2_isWithin, Cond.initialized RX2, Cond.code yX2_isWithin cX2_isWithin 3 (some .boolean), Cond.methodLink RX2 163 yX2_spendHour, Cond.instanceMethod yX2_spendHour, Cond.selects RX2 yX2_spendHour yX2_spendHour, Cond.code yX2_spendHour cX2_spendHour 5 none, Cond.fieldLink RX2 11 "Windlane" "kites" "[LWindlane$Kite;", Cond.fieldLink RX2 158 "Windlane" "isRaining" "Z", Cond.methodLink RX2 209 yX1_spendHour, Cond.instanceMethod yX1_spendHour, Cond.selects RX1 yX1_spendHour yX1_spendHour, Cond.initialized RX1, Cond.code yX1_spendHour cX1_spendHour 2 none, Cond.fieldLink RX1 34 "Windlane$Kite" "wetHours" "I", Cond.methodLink RX1 37 yX1_isFlying, Cond.instanceMethod yX1_isFlying, Cond.selects RX1 yX1_isFlying yX1_isFlying, Cond.code yX1_isFlying cX1_isFlying 1 (some .boolean), Cond.fieldLink RX1 27 "Windlane$Kite" "lane" "I", Cond.methodLink RX2 166 yX2_countWet]
def wsX2_pass_r2 : List Cond := [Cond.instanceMethod yX2_countWet, Cond.selects RX2 yX2_countWet yX2_countWet, Cond.code yX2_countWet cX2_countWet 6 (some .int), Cond.fieldLink RX2 190 "Windlane$Kite" "wetHours" "I"]
def wsX2_pass : List Cond := .code yX2_pass cX2_pass 3 (some .int) :: ((wsX2_pass_r1 ++ wsX2_pass_r2) ++ wsX20 ++ wsX10 ++ (vx_atS RX2 32 "java/lang/IllegalArgumentException" ["java/lang/RuntimeException", "java/lang/Exception"]).filter goodWord)
def wsX2_pull_r1 : List Cond := [Cond.classLink RX2 28 "java/lang/IllegalArgumentException", Cond.initialized "java/lang/IllegalArgumentException", Cond.methodLink RX2 47 yX2_kiteAt, Cond.instanceMethod yX2_kiteAt, Cond.selects RX2 yX2_kiteAt yX2_kiteAt, Cond.initialized RX2, Cond.code yX2_kiteAt cX2_kiteAt 3 (some (.object "Windlane$Kite")), Cond.classLink RX2 105 "java/lang/IndexOutOfBoundsException", Cond.initialized "java/lang/IndexOutOfBoundsException", Cond.fieldLink RX2 11 "Windlane" "kites" "[LWindlane$Kite;", Cond.methodLink RX2 24 yX2_isWithin, Cond.static yX2_isWithin, Cond.code yX2_isWithin cX2_isWithin 3 (some .boolean), Cond.methodLink RX2 144 yX2_isSpeed, Cond.static yX2_isSpeed, Cond.code yX2_isSpeed cX2_isSpeed 1 (some .boolean), Cond.methodLink RX2 172 yX1_pullIn, Cond.instanceMethod yX1_pullIn, Cond.selects RX1 yX1_pullIn yX1_pullIn, Cond.initialized RX1, Cond.code yX1_pullIn cX1_pullIn 2 (some .int), Cond.fieldLink RX1 21 "Windlane$Kite" "weight" "I", Cond.methodLink RX1 53 yX1_liftIn, Cond.instanceMethod yX1_liftIn]
def wsX2_pull_r2 : List Cond := [Cond.selects RX1 yX1_liftIn yX1_liftIn, Cond.code yX1_liftIn cX1_liftIn 2 (some .int), Cond.fieldLink RX1 15 "Windlane$Kite" "kind" "I", Cond.fieldLink RX1 18 "Windlane$Kite" "area" "I"]
def wsX2_pull : List Cond := .code yX2_pull cX2_pull 4 (some .int) :: ((wsX2_pull_r1 ++ wsX2_pull_r2) ++ wsX20 ++ wsX10 ++ (vx_atS RX2 32 "java/lang/IllegalArgumentException" ["java/lang/RuntimeException", "java/lang/Exception"]).filter goodWord ++ (vx_atS RX2 109 "java/lang/IndexOutOfBoundsException" ["java/lang/RuntimeException", "java/lang/Exception"]).filter goodWord)
def wsX2_pullAnew_r1 : List Cond := [Cond.classLink RX2 28 "java/lang/IllegalArgumentException", Cond.initialized "java/lang/IllegalArgumentException", Cond.methodLink RX2 47 yX2_kiteAt, Cond.instanceMethod yX2_kiteAt, Cond.selects RX2 yX2_kiteAt yX2_kiteAt, Cond.initialized RX2, Cond.code yX2_kiteAt cX2_kiteAt 3 (some (.object "Windlane$Kite")), Cond.classLink RX2 105 "java/lang/IndexOutOfBoundsException", Cond.initialized "java/lang/IndexOutOfBoundsException", Cond.fieldLink RX2 11 "Windlane" "kites" "[LWindlane$Kite;", Cond.methodLink RX2 24 yX2_isWithin, Cond.static yX2_isWithin, Cond.code yX2_isWithin cX2_isWithin 3 (some .boolean), Cond.methodLink RX2 144 yX2_isSpeed, Cond.static yX2_isSpeed, Cond.code yX2_isSpeed cX2_isSpeed 1 (some .boolean), Cond.methodLink RX2 176 yX1_pullByStepsTo, Cond.instanceMethod yX1_pullByStepsTo, Cond.selects RX1 yX1_pullByStepsTo yX1_pullByStepsTo, Cond.initialized RX1, Cond.code yX1_pullByStepsTo cX1_pullByStepsTo 4 (some .int), Cond.fieldLink RX1 21 "Windlane$Kite" "weight" "I", Cond.methodLink RX1 56 yX1_liftAddedBy, Cond.instanceMethod yX1_liftAddedBy]
def wsX2_pullAnew_r2 : List Cond := [Cond.selects RX1 yX1_liftAddedBy yX1_liftAddedBy, Cond.code yX1_liftAddedBy cX1_liftAddedBy 2 (some .int), Cond.fieldLink RX1 15 "Windlane$Kite" "kind" "I", Cond.fieldLink RX1 18 "Windlane$Kite" "area" "I"]
def wsX2_pullAnew : List Cond := .code yX2_pullAnew cX2_pullAnew 4 (some .int) :: ((wsX2_pullAnew_r1 ++ wsX2_pullAnew_r2) ++ wsX20 ++ wsX10 ++ (vx_atS RX2 32 "java/lang/IllegalArgumentException" ["java/lang/RuntimeException", "java/lang/Exception"]).filter goodWord ++ (vx_atS RX2 109 "java/lang/IndexOutOfBoundsException" ["java/lang/RuntimeException", "java/lang/Exception"]).filter goodWord)
def wsX2_window_r1 : List Cond := [Cond.methodLink RX2 47 yX2_kiteAt, Cond.instanceMethod yX2_kiteAt, Cond.selects RX2 yX2_kiteAt yX2_kiteAt, Cond.initialized RX2, Cond.code yX2_kiteAt cX2_kiteAt 3 (some (.object "Windlane$Kite")), Cond.classLink RX2 105 "java/lang/IndexOutOfBoundsException", Cond.initialized "java/lang/IndexOutOfBoundsException", Cond.fieldLink RX2 11 "Windlane" "kites" "[LWindlane$Kite;", Cond.methodLink RX2 24 yX2_isWithin, Cond.static yX2_isWithin, Cond.code yX2_isWithin cX2_isWithin 3 (some .boolean), Cond.methodLink RX2 187 yX1_holdsIn, Cond.instanceMethod yX1_holdsIn, Cond.selects RX1 yX1_holdsIn yX1_holdsIn, Cond.initialized RX1, Cond.code yX1_holdsIn cX1_holdsIn 2 (some .boolean), Cond.methodLink RX1 45 yX1_pullIn, Cond.instanceMethod yX1_pullIn, Cond.selects RX1 yX1_pullIn yX1_pullIn, Cond.code yX1_pullIn cX1_pullIn 2 (some .int), Cond.fieldLink RX1 21 "Windlane$Kite" "weight" "I", Cond.methodLink RX1 53 yX1_liftIn, Cond.instanceMethod yX1_liftIn, Cond.selects RX1 yX1_liftIn yX1_liftIn]
def wsX2_window_r2 : List Cond := [Cond.code yX1_liftIn cX1_liftIn 2 (some .int), Cond.fieldLink RX1 15 "Windlane$Kite" "kind" "I", Cond.fieldLink RX1 18 "Windlane$Kite" "area" "I"]
def wsX2_window : List Cond := .code yX2_window cX2_window 6 (some .int) :: ((wsX2_window_r1 ++ wsX2_window_r2) ++ wsX20 ++ wsX10 ++ (vx_atS RX2 109 "java/lang/IndexOutOfBoundsException" ["java/lang/RuntimeException", "java/lang/Exception"]).filter goodWord)
def wsX2_about_r1 : List Cond := [Cond.classLink RX2 28 "java/lang/IllegalArgumentException", Cond.initialized "java/lang/IllegalArgumentException", Cond.fieldLink RX2 57 "Windlane$Kite" "weight" "I", Cond.fieldLink RX2 51 "Windlane$Kite" "isTorn" "Z", Cond.fieldLink RX2 190 "Windlane$Kite" "wetHours" "I", Cond.fieldLink RX2 86 "Windlane$Kite" "borrower" "I", Cond.fieldLink RX2 133 "Windlane$Kite" "lane" "I", Cond.fieldLink RX2 112 "Windlane" "windSpeed" "I", Cond.fieldLink RX2 120 "Windlane" "windSide" "I", Cond.methodLink RX2 47 yX2_kiteAt, Cond.instanceMethod yX2_kiteAt, Cond.selects RX2 yX2_kiteAt yX2_kiteAt, Cond.initialized RX2, Cond.code yX2_kiteAt cX2_kiteAt 3 (some (.object "Windlane$Kite")), Cond.classLink RX2 105 "java/lang/IndexOutOfBoundsException", Cond.initialized "java/lang/IndexOutOfBoundsException", Cond.fieldLink RX2 11 "Windlane" "kites" "[LWindlane$Kite;", Cond.methodLink RX2 24 yX2_isWithin, Cond.static yX2_isWithin, Cond.code yX2_isWithin cX2_isWithin 3 (some .boolean), Cond.methodLink RX2 93 yX1_isFlying, Cond.instanceMethod yX1_isFlying, Cond.selects RX1 yX1_isFlying yX1_isFlying, Cond.initialized RX1]
def wsX2_about_r2 : List Cond := [Cond.code yX1_isFlying cX1_isFlying 1 (some .boolean), Cond.fieldLink RX1 27 "Windlane$Kite" "lane" "I", Cond.methodLink RX2 193 yX1_endIn, Cond.instanceMethod yX1_endIn, Cond.selects RX1 yX1_endIn yX1_endIn, Cond.code yX1_endIn cX1_endIn 3 (some .int), Cond.fieldLink RX1 60 "Windlane$Kite" "length" "I", Cond.methodLink RX1 63 yX1_endAt, Cond.instanceMethod yX1_endAt, Cond.selects RX1 yX1_endAt yX1_endAt, Cond.code yX1_endAt cX1_endAt 7 (some .int), Cond.methodLink RX1 45 yX1_pullIn, Cond.instanceMethod yX1_pullIn, Cond.selects RX1 yX1_pullIn yX1_pullIn, Cond.code yX1_pullIn cX1_pullIn 2 (some .int), Cond.fieldLink RX1 21 "Windlane$Kite" "weight" "I", Cond.methodLink RX1 53 yX1_liftIn, Cond.instanceMethod yX1_liftIn, Cond.selects RX1 yX1_liftIn yX1_liftIn, Cond.code yX1_liftIn cX1_liftIn 2 (some .int), Cond.fieldLink RX1 15 "Windlane$Kite" "kind" "I", Cond.fieldLink RX1 18 "Windlane$Kite" "area" "I"]
def wsX2_about : List Cond := .code yX2_about cX2_about 4 (some .int) :: ((wsX2_about_r1 ++ wsX2_about_r2) ++ wsX10 ++ wsX20 ++ (vx_atS RX2 32 "java/lang/IllegalArgumentException" ["java/lang/RuntimeException", "java/lang/Exception"]).filter goodWord ++ (vx_atS RX2 109 "java/lang/IndexOutOfBoundsException" ["java/lang/RuntimeException", "java/lang/Exception"]).filter goodWord)
def wsX2_lane : List Cond := .code yX2_lane cX2_lane 3 (some .int) :: ([.classLink RX2 105 "java/lang/IndexOutOfBoundsException", .initialized "java/lang/IndexOutOfBoundsException", .fieldLink RX2 21 "Windlane" "flyers" "[LWindlane$Kite;", .fieldLink RX2 98 "Windlane$Kite" "number" "I", .methodLink RX2 101 yX2_isLane, .static yX2_isLane, .initialized RX2, .code yX2_isLane cX2_isLane 1 (some .boolean), .methodLink RX2 24 yX2_isWithin, .static yX2_isWithin, .code yX2_isWithin cX2_isWithin 3 (some .boolean)] ++ wsX20 ++ wsX10 ++ (vx_atS RX2 109 "java/lang/IndexOutOfBoundsException" ["java/lang/RuntimeException", "java/lang/Exception"]).filter goodWord)
def wsX2_called : List Cond := .code yX2_called cX2_called 1 (some .int) :: ([.fieldLink RX2 149 "Windlane" "calledCount" "I"] ++ wsX20)
def wsL_draw : List Cond := .code yL_draw cL_draw 2 (some .int) :: ([.constant RL 7 (2147483647), .constant RL 8 (104729), .constant RL 9 (65521)])
def wsL_kites_r1 : List Cond := [Cond.classLink RL 16 "java/lang/IllegalStateException", Cond.methodLink RL 10 yX2_kite, Cond.instanceMethod yX2_kite, Cond.selects RX2 yX2_kite yX2_kite, Cond.initialized RX2, Cond.code yX2_kite cX2_kite 5 (some .int), Cond.classLink RX2 28 "java/lang/IllegalArgumentException", Cond.initialized "java/lang/IllegalArgumentException", Cond.classLink RX2 39 "java/lang/IllegalStateException", Cond.initialized "java/lang/IllegalStateException", Cond.fieldLink RX2 35 "Windlane" "kiteCount" "I", Cond.fieldLink RX2 11 "Windlane" "kites" "[LWindlane$Kite;", Cond.classLink RX2 9 RX1, Cond.instantiable RX1 9, Cond.initialized RX1, Cond.methodLink RX2 24 yX2_isWithin, Cond.static yX2_isWithin, Cond.code yX2_isWithin cX2_isWithin 3 (some .boolean), Cond.methodLink RX2 44 yX1_init, Cond.instanceMethod yX1_init, Cond.code yX1_init cX1_init 5 none, Cond.methodLink RX1 3 objectInit, Cond.instanceMethod objectInit, Cond.code objectInit ⟨#[0xb1]⟩ 1 none]
def wsL_kites_r2 : List Cond := [Cond.fieldLink RX1 9 "Windlane$Kite" "number" "I", Cond.fieldLink RX1 15 "Windlane$Kite" "kind" "I", Cond.fieldLink RX1 18 "Windlane$Kite" "area" "I", Cond.fieldLink RX1 21 "Windlane$Kite" "weight" "I", Cond.fieldLink RX1 24 "Windlane$Kite" "borrower" "I", Cond.fieldLink RX1 27 "Windlane$Kite" "lane" "I"]
def wsL_kites : List Cond := .codeWith yL_kites cL_kites 5 (some .int) [(0, 7, 8, 16)] :: ((wsL_kites_r1 ++ wsL_kites_r2) ++ wsX20 ++ wsX10 ++ (vx_atS RX2 32 "java/lang/IllegalArgumentException" ["java/lang/RuntimeException", "java/lang/Exception"]).filter goodWord ++ (vx_atS RX2 43 "java/lang/IllegalStateException" ["java/lang/RuntimeException", "java/lang/Exception"]).filter goodWord)
def wsL_borrowers_r1 : List Cond := [Cond.classLink RL 16 "java/lang/IllegalStateException", Cond.methodLink RL 18 yX2_borrower, Cond.instanceMethod yX2_borrower, Cond.selects RX2 yX2_borrower yX2_borrower, Cond.initialized RX2, Cond.code yX2_borrower cX2_borrower 3 (some .int), Cond.classLink RX2 28 "java/lang/IllegalArgumentException", Cond.initialized "java/lang/IllegalArgumentException", Cond.classLink RX2 39 "java/lang/IllegalStateException", Cond.initialized "java/lang/IllegalStateException", Cond.fieldLink RX2 64 "Windlane" "borrowerCount" "I", Cond.fieldLink RX2 17 "Windlane" "borrowers" "[LWindlane$Borrower;", Cond.classLink RX2 15 RX0, Cond.instantiable RX0 2, Cond.initialized RX0, Cond.methodLink RX2 24 yX2_isWithin, Cond.static yX2_isWithin, Cond.code yX2_isWithin cX2_isWithin 3 (some .boolean), Cond.methodLink RX2 69 yX0_init, Cond.instanceMethod yX0_init, Cond.code yX0_init cX0_init 2 none, Cond.methodLink RX0 1 objectInit, Cond.instanceMethod objectInit, Cond.code objectInit ⟨#[0xb1]⟩ 1 none]
def wsL_borrowers_r2 : List Cond := [Cond.fieldLink RX0 7 "Windlane$Borrower" "skill" "I"]
def wsL_borrowers : List Cond := .codeWith yL_borrowers cL_borrowers 3 (some .int) [(0, 5, 6, 16)] :: ((wsL_borrowers_r1 ++ wsL_borrowers_r2) ++ wsX20 ++ wsX00 ++ (vx_atS RX2 32 "java/lang/IllegalArgumentException" ["java/lang/RuntimeException", "java/lang/Exception"]).filter goodWord ++ (vx_atS RX2 43 "java/lang/IllegalStateException" ["java/lang/RuntimeException", "java/lang/Exception"]).filter goodWord)
def wsL_patches : List Cond := .codeWith yL_patches cL_patches 3 (some .int) [(0, 5, 6, 16)] :: ([.classLink RL 16 "java/lang/IllegalStateException", .methodLink RL 22 yX2_patch, .instanceMethod yX2_patch, .selects RX2 yX2_patch yX2_patch, .initialized RX2, .code yX2_patch cX2_patch 3 (some .int), .classLink RX2 39 "java/lang/IllegalStateException", .initialized "java/lang/IllegalStateException", .fieldLink RX2 51 "Windlane$Kite" "isTorn" "Z", .fieldLink RX2 57 "Windlane$Kite" "weight" "I", .methodLink RX2 47 yX2_kiteAt, .instanceMethod yX2_kiteAt, .selects RX2 yX2_kiteAt yX2_kiteAt, .code yX2_kiteAt cX2_kiteAt 3 (some (.object "Windlane$Kite")), .classLink RX2 105 "java/lang/IndexOutOfBoundsException", .initialized "java/lang/IndexOutOfBoundsException", .fieldLink RX2 11 "Windlane" "kites" "[LWindlane$Kite;", .methodLink RX2 24 yX2_isWithin, .static yX2_isWithin, .code yX2_isWithin cX2_isWithin 3 (some .boolean)] ++ wsX10 ++ wsX20 ++ (vx_atS RX2 43 "java/lang/IllegalStateException" ["java/lang/RuntimeException", "java/lang/Exception"]).filter goodWord ++ (vx_atS RX2 109 "java/lang/IndexOutOfBoundsException" ["java/lang/RuntimeException", "java/lang/Exception"]).filter goodWord)
def wsL_lends_r1 : List Cond := [Cond.classLink RL 16 "java/lang/IllegalStateException", Cond.methodLink RL 25 yX2_lend, Cond.instanceMethod yX2_lend, Cond.selects RX2 yX2_lend yX2_lend, Cond.initialized RX2, Cond.code yX2_lend cX2_lend 5 none, Cond.classLink RX2 39 "java/lang/IllegalStateException", Cond.initialized "java/lang/IllegalStateException", Cond.fieldLink RX2 86 "Windlane$Kite" "borrower" "I", Cond.fieldLink RX2 89 "Windlane$Borrower" "held" "LWindlane$Kite;", Cond.methodLink RX2 47 yX2_kiteAt, Cond.instanceMethod yX2_kiteAt, Cond.selects RX2 yX2_kiteAt yX2_kiteAt, Cond.code yX2_kiteAt cX2_kiteAt 3 (some (.object "Windlane$Kite")), Cond.classLink RX2 105 "java/lang/IndexOutOfBoundsException", Cond.initialized "java/lang/IndexOutOfBoundsException", Cond.fieldLink RX2 11 "Windlane" "kites" "[LWindlane$Kite;", Cond.methodLink RX2 24 yX2_isWithin, Cond.static yX2_isWithin, Cond.code yX2_isWithin cX2_isWithin 3 (some .boolean), Cond.methodLink RX2 72 yX2_borrowerAt, Cond.instanceMethod yX2_borrowerAt, Cond.selects RX2 yX2_borrowerAt yX2_borrowerAt, Cond.code yX2_borrowerAt cX2_borrowerAt 3 (some (.object "Windlane$Borrower"))]
def wsL_lends_r2 : List Cond := [Cond.fieldLink RX2 17 "Windlane" "borrowers" "[LWindlane$Borrower;", Cond.methodLink RX2 76 yX1_isLendable, Cond.instanceMethod yX1_isLendable, Cond.selects RX1 yX1_isLendable yX1_isLendable, Cond.initialized RX1, Cond.code yX1_isLendable cX1_isLendable 1 (some .boolean), Cond.fieldLink RX1 24 "Windlane$Kite" "borrower" "I", Cond.fieldLink RX1 30 "Windlane$Kite" "isTorn" "Z", Cond.fieldLink RX1 34 "Windlane$Kite" "wetHours" "I", Cond.methodLink RX2 80 yX0_canTake, Cond.instanceMethod yX0_canTake, Cond.selects RX0 yX0_canTake yX0_canTake, Cond.initialized RX0, Cond.code yX0_canTake cX0_canTake 2 (some .boolean), Cond.fieldLink RX0 13 "Windlane$Borrower" "held" "LWindlane$Kite;", Cond.fieldLink RX0 7 "Windlane$Borrower" "skill" "I", Cond.fieldLink RX0 17 "Windlane$Kite" "kind" "I"]
def wsL_lends : List Cond := .codeWith yL_lends cL_lends 4 (some .int) [(0, 7, 8, 16)] :: ((wsL_lends_r1 ++ wsL_lends_r2) ++ wsX10 ++ wsX00 ++ wsX20 ++ (vx_atS RX2 43 "java/lang/IllegalStateException" ["java/lang/RuntimeException", "java/lang/Exception"]).filter goodWord ++ (vx_atS RX2 109 "java/lang/IndexOutOfBoundsException" ["java/lang/RuntimeException", "java/lang/Exception"]).filter goodWord)
def wsL_backs_r1 : List Cond := [Cond.classLink RL 16 "java/lang/IllegalStateException", Cond.methodLink RL 29 yX2_giveBack, Cond.instanceMethod yX2_giveBack, Cond.selects RX2 yX2_giveBack yX2_giveBack, Cond.initialized RX2, Cond.code yX2_giveBack cX2_giveBack 4 (some .int), Cond.classLink RX2 39 "java/lang/IllegalStateException", Cond.initialized "java/lang/IllegalStateException", Cond.fieldLink RX2 89 "Windlane$Borrower" "held" "LWindlane$Kite;", Cond.fieldLink RX2 86 "Windlane$Kite" "borrower" "I", Cond.fieldLink RX2 98 "Windlane$Kite" "number" "I", Cond.methodLink RX2 72 yX2_borrowerAt, Cond.instanceMethod yX2_borrowerAt, Cond.selects RX2 yX2_borrowerAt yX2_borrowerAt, Cond.code yX2_borrowerAt cX2_borrowerAt 3 (some (.object "Windlane$Borrower")), Cond.classLink RX2 105 "java/lang/IndexOutOfBoundsException", Cond.initialized "java/lang/IndexOutOfBoundsException", Cond.fieldLink RX2 17 "Windlane" "borrowers" "[LWindlane$Borrower;", Cond.methodLink RX2 24 yX2_isWithin, Cond.static yX2_isWithin, Cond.code yX2_isWithin cX2_isWithin 3 (some .boolean), Cond.methodLink RX2 93 yX1_isFlying, Cond.instanceMethod yX1_isFlying, Cond.selects RX1 yX1_isFlying yX1_isFlying]
def wsL_backs_r2 : List Cond := [Cond.initialized RX1, Cond.code yX1_isFlying cX1_isFlying 1 (some .boolean), Cond.fieldLink RX1 27 "Windlane$Kite" "lane" "I"]
def wsL_backs : List Cond := .codeWith yL_backs cL_backs 3 (some .int) [(0, 5, 6, 16)] :: ((wsL_backs_r1 ++ wsL_backs_r2) ++ wsX00 ++ wsX10 ++ wsX20 ++ (vx_atS RX2 43 "java/lang/IllegalStateException" ["java/lang/RuntimeException", "java/lang/Exception"]).filter goodWord ++ (vx_atS RX2 109 "java/lang/IndexOutOfBoundsException" ["java/lang/RuntimeException", "java/lang/Exception"]).filter goodWord)
def wsL_flies_r1 : List Cond := [Cond.classLink RL 16 "java/lang/IllegalStateException", Cond.constant RL 35 (-99999), Cond.methodLink RL 32 yX2_fly, Cond.instanceMethod yX2_fly, Cond.selects RX2 yX2_fly yX2_fly, Cond.initialized RX2, Cond.code yX2_fly cX2_fly 6 (some .int), Cond.classLink RX2 105 "java/lang/IndexOutOfBoundsException", Cond.initialized "java/lang/IndexOutOfBoundsException", Cond.classLink RX2 28 "java/lang/IllegalArgumentException", Cond.initialized "java/lang/IllegalArgumentException", Cond.classLink RX2 39 "java/lang/IllegalStateException", Cond.initialized "java/lang/IllegalStateException", Cond.fieldLink RX2 112 "Windlane" "windSpeed" "I", Cond.fieldLink RX2 21 "Windlane" "flyers" "[LWindlane$Kite;", Cond.fieldLink RX2 120 "Windlane" "windSide" "I", Cond.fieldLink RX2 133 "Windlane$Kite" "lane" "I", Cond.fieldLink RX2 136 "Windlane$Kite" "length" "I", Cond.methodLink RX2 47 yX2_kiteAt, Cond.instanceMethod yX2_kiteAt, Cond.selects RX2 yX2_kiteAt yX2_kiteAt, Cond.code yX2_kiteAt cX2_kiteAt 3 (some (.object "Windlane$Kite")), Cond.fieldLink RX2 11 "Windlane" "kites" "[LWindlane$Kite;", Cond.methodLink RX2 24 yX2_isWithin]
def wsL_flies_r2 : List Cond := [Cond.static yX2_isWithin, Cond.code yX2_isWithin cX2_isWithin 3 (some .boolean), Cond.methodLink RX2 101 yX2_isLane, Cond.static yX2_isLane, Cond.code yX2_isLane cX2_isLane 1 (some .boolean), Cond.methodLink RX2 115 yX1_isReadyIn, Cond.instanceMethod yX1_isReadyIn, Cond.selects RX1 yX1_isReadyIn yX1_isReadyIn, Cond.initialized RX1, Cond.code yX1_isReadyIn cX1_isReadyIn 2 (some .boolean), Cond.fieldLink RX1 24 "Windlane$Kite" "borrower" "I", Cond.fieldLink RX1 30 "Windlane$Kite" "isTorn" "Z", Cond.methodLink RX1 37 yX1_isFlying, Cond.instanceMethod yX1_isFlying, Cond.selects RX1 yX1_isFlying yX1_isFlying, Cond.code yX1_isFlying cX1_isFlying 1 (some .boolean), Cond.fieldLink RX1 27 "Windlane$Kite" "lane" "I", Cond.methodLink RX1 41 yX1_holdsIn, Cond.instanceMethod yX1_holdsIn, Cond.selects RX1 yX1_holdsIn yX1_holdsIn, Cond.code yX1_holdsIn cX1_holdsIn 2 (some .boolean), Cond.methodLink RX1 45 yX1_pullIn, Cond.instanceMethod yX1_pullIn, Cond.selects RX1 yX1_pullIn yX1_pullIn]
def wsL_flies_r3 : List Cond := [Cond.code yX1_pullIn cX1_pullIn 2 (some .int), Cond.fieldLink RX1 21 "Windlane$Kite" "weight" "I", Cond.methodLink RX1 53 yX1_liftIn, Cond.instanceMethod yX1_liftIn, Cond.selects RX1 yX1_liftIn yX1_liftIn, Cond.code yX1_liftIn cX1_liftIn 2 (some .int), Cond.fieldLink RX1 15 "Windlane$Kite" "kind" "I", Cond.fieldLink RX1 18 "Windlane$Kite" "area" "I", Cond.methodLink RX2 123 yX1_endAt, Cond.instanceMethod yX1_endAt, Cond.selects RX1 yX1_endAt yX1_endAt, Cond.code yX1_endAt cX1_endAt 7 (some .int), Cond.methodLink RX2 127 yX2_wouldCross, Cond.instanceMethod yX2_wouldCross, Cond.selects RX2 yX2_wouldCross yX2_wouldCross, Cond.code yX2_wouldCross cX2_wouldCross 6 (some .boolean), Cond.methodLink RX2 193 yX1_endIn, Cond.instanceMethod yX1_endIn, Cond.selects RX1 yX1_endIn yX1_endIn, Cond.code yX1_endIn cX1_endIn 3 (some .int), Cond.fieldLink RX1 60 "Windlane$Kite" "length" "I", Cond.methodLink RX1 63 yX1_endAt]
def wsL_flies : List Cond := .codeWith yL_flies cL_flies 5 (some .int) [(0, 7, 8, 16)] :: ((wsL_flies_r1 ++ (wsL_flies_r2 ++ wsL_flies_r3)) ++ wsX20 ++ wsX10 ++ (vx_atS RX2 109 "java/lang/IndexOutOfBoundsException" ["java/lang/RuntimeException", "java/lang/Exception"]).filter goodWord ++ (vx_atS RX2 32 "java/lang/IllegalArgumentException" ["java/lang/RuntimeException", "java/lang/Exception"]).filter goodWord ++ (vx_atS RX2 43 "java/lang/IllegalStateException" ["java/lang/RuntimeException", "java/lang/Exception"]).filter goodWord)
def wsL_lands_r1 : List Cond := [Cond.classLink RL 16 "java/lang/IllegalStateException", Cond.methodLink RL 36 yX2_land, Cond.instanceMethod yX2_land, Cond.selects RX2 yX2_land yX2_land, Cond.initialized RX2, Cond.code yX2_land cX2_land 4 (some .int), Cond.classLink RX2 39 "java/lang/IllegalStateException", Cond.initialized "java/lang/IllegalStateException", Cond.fieldLink RX2 133 "Windlane$Kite" "lane" "I", Cond.methodLink RX2 47 yX2_kiteAt, Cond.instanceMethod yX2_kiteAt, Cond.selects RX2 yX2_kiteAt yX2_kiteAt, Cond.code yX2_kiteAt cX2_kiteAt 3 (some (.object "Windlane$Kite")), Cond.classLink RX2 105 "java/lang/IndexOutOfBoundsException", Cond.initialized "java/lang/IndexOutOfBoundsException", Cond.fieldLink RX2 11 "Windlane" "kites" "[LWindlane$Kite;", Cond.methodLink RX2 24 yX2_isWithin, Cond.static yX2_isWithin, Cond.code yX2_isWithin cX2_isWithin 3 (some .boolean), Cond.methodLink RX2 101 yX2_isLane, Cond.static yX2_isLane, Cond.code yX2_isLane cX2_isLane 1 (some .boolean), Cond.methodLink RX2 141 yX2_clearLane, Cond.instanceMethod yX2_clearLane]
def wsL_lands_r2 : List Cond := [Cond.selects RX2 yX2_clearLane yX2_clearLane, Cond.code yX2_clearLane cX2_clearLane 3 none, Cond.fieldLink RX2 21 "Windlane" "flyers" "[LWindlane$Kite;"]
def wsL_lands : List Cond := .codeWith yL_lands cL_lands 3 (some .int) [(0, 5, 6, 16)] :: ((wsL_lands_r1 ++ wsL_lands_r2) ++ wsX10 ++ wsX20 ++ (vx_atS RX2 43 "java/lang/IllegalStateException" ["java/lang/RuntimeException", "java/lang/Exception"]).filter goodWord ++ (vx_atS RX2 109 "java/lang/IndexOutOfBoundsException" ["java/lang/RuntimeException", "java/lang/Exception"]).filter goodWord)
def wsL_kiteOf_r1 : List Cond := [Cond.methodLink RL 45 yX2_about, Cond.instanceMethod yX2_about, Cond.selects RX2 yX2_about yX2_about, Cond.initialized RX2, Cond.code yX2_about cX2_about 4 (some .int), Cond.classLink RX2 28 "java/lang/IllegalArgumentException", Cond.initialized "java/lang/IllegalArgumentException", Cond.fieldLink RX2 57 "Windlane$Kite" "weight" "I", Cond.fieldLink RX2 51 "Windlane$Kite" "isTorn" "Z", Cond.fieldLink RX2 190 "Windlane$Kite" "wetHours" "I", Cond.fieldLink RX2 86 "Windlane$Kite" "borrower" "I", Cond.fieldLink RX2 133 "Windlane$Kite" "lane" "I", Cond.fieldLink RX2 112 "Windlane" "windSpeed" "I", Cond.fieldLink RX2 120 "Windlane" "windSide" "I", Cond.methodLink RX2 47 yX2_kiteAt, Cond.instanceMethod yX2_kiteAt, Cond.selects RX2 yX2_kiteAt yX2_kiteAt, Cond.code yX2_kiteAt cX2_kiteAt 3 (some (.object "Windlane$Kite")), Cond.classLink RX2 105 "java/lang/IndexOutOfBoundsException", Cond.initialized "java/lang/IndexOutOfBoundsException", Cond.fieldLink RX2 11 "Windlane" "kites" "[LWindlane$Kite;", Cond.methodLink RX2 24 yX2_isWithin, Cond.static yX2_isWithin, Cond.code yX2_isWithin cX2_isWithin 3 (some .boolean)]
def wsL_kiteOf_r2 : List Cond := [Cond.methodLink RX2 93 yX1_isFlying, Cond.instanceMethod yX1_isFlying, Cond.selects RX1 yX1_isFlying yX1_isFlying, Cond.initialized RX1, Cond.code yX1_isFlying cX1_isFlying 1 (some .boolean), Cond.fieldLink RX1 27 "Windlane$Kite" "lane" "I", Cond.methodLink RX2 193 yX1_endIn, Cond.instanceMethod yX1_endIn, Cond.selects RX1 yX1_endIn yX1_endIn, Cond.code yX1_endIn cX1_endIn 3 (some .int), Cond.fieldLink RX1 60 "Windlane$Kite" "length" "I", Cond.methodLink RX1 63 yX1_endAt, Cond.instanceMethod yX1_endAt, Cond.selects RX1 yX1_endAt yX1_endAt, Cond.code yX1_endAt cX1_endAt 7 (some .int), Cond.methodLink RX1 45 yX1_pullIn, Cond.instanceMethod yX1_pullIn, Cond.selects RX1 yX1_pullIn yX1_pullIn, Cond.code yX1_pullIn cX1_pullIn 2 (some .int), Cond.fieldLink RX1 21 "Windlane$Kite" "weight" "I", Cond.methodLink RX1 53 yX1_liftIn, Cond.instanceMethod yX1_liftIn, Cond.selects RX1 yX1_liftIn yX1_liftIn, Cond.code yX1_liftIn cX1_liftIn 2 (some .int)]
def wsL_kiteOf_r3 : List Cond := [Cond.fieldLink RX1 15 "Windlane$Kite" "kind" "I", Cond.fieldLink RX1 18 "Windlane$Kite" "area" "I"]
def wsL_kiteOf : List Cond := .code yL_kiteOf cL_kiteOf 4 (some .int) :: ((wsL_kiteOf_r1 ++ (wsL_kiteOf_r2 ++ wsL_kiteOf_r3)) ++ wsX10 ++ wsX20 ++ (vx_atS RX2 32 "java/lang/IllegalArgumentException" ["java/lang/RuntimeException", "java/lang/Exception"]).filter goodWord ++ (vx_atS RX2 109 "java/lang/IndexOutOfBoundsException" ["java/lang/RuntimeException", "java/lang/Exception"]).filter goodWord)
def wsL_isFlown_r1 : List Cond := [Cond.constant RL 35 (-99999), Cond.methodLink RL 49 yX2_pull, Cond.instanceMethod yX2_pull, Cond.selects RX2 yX2_pull yX2_pull, Cond.initialized RX2, Cond.code yX2_pull cX2_pull 4 (some .int), Cond.classLink RX2 28 "java/lang/IllegalArgumentException", Cond.initialized "java/lang/IllegalArgumentException", Cond.methodLink RX2 47 yX2_kiteAt, Cond.instanceMethod yX2_kiteAt, Cond.selects RX2 yX2_kiteAt yX2_kiteAt, Cond.code yX2_kiteAt cX2_kiteAt 3 (some (.object "Windlane$Kite")), Cond.classLink RX2 105 "java/lang/IndexOutOfBoundsException", Cond.initialized "java/lang/IndexOutOfBoundsException", Cond.fieldLink RX2 11 "Windlane" "kites" "[LWindlane$Kite;", Cond.methodLink RX2 24 yX2_isWithin, Cond.static yX2_isWithin, Cond.code yX2_isWithin cX2_isWithin 3 (some .boolean), Cond.methodLink RX2 144 yX2_isSpeed, Cond.static yX2_isSpeed, Cond.code yX2_isSpeed cX2_isSpeed 1 (some .boolean), Cond.methodLink RX2 172 yX1_pullIn, Cond.instanceMethod yX1_pullIn, Cond.selects RX1 yX1_pullIn yX1_pullIn]
def wsL_isFlown_r2 : List Cond := [Cond.initialized RX1, Cond.code yX1_pullIn cX1_pullIn 2 (some .int), Cond.fieldLink RX1 21 "Windlane$Kite" "weight" "I", Cond.methodLink RX1 53 yX1_liftIn, Cond.instanceMethod yX1_liftIn, Cond.selects RX1 yX1_liftIn yX1_liftIn, Cond.code yX1_liftIn cX1_liftIn 2 (some .int), Cond.fieldLink RX1 15 "Windlane$Kite" "kind" "I", Cond.fieldLink RX1 18 "Windlane$Kite" "area" "I", Cond.methodLink RL 45 yX2_about, Cond.instanceMethod yX2_about, Cond.selects RX2 yX2_about yX2_about, Cond.code yX2_about cX2_about 4 (some .int), Cond.fieldLink RX2 57 "Windlane$Kite" "weight" "I", Cond.fieldLink RX2 51 "Windlane$Kite" "isTorn" "Z", Cond.fieldLink RX2 190 "Windlane$Kite" "wetHours" "I", Cond.fieldLink RX2 86 "Windlane$Kite" "borrower" "I", Cond.fieldLink RX2 133 "Windlane$Kite" "lane" "I", Cond.fieldLink RX2 112 "Windlane" "windSpeed" "I", Cond.fieldLink RX2 120 "Windlane" "windSide" "I", Cond.methodLink RX2 93 yX1_isFlying, Cond.instanceMethod yX1_isFlying, Cond.selects RX1 yX1_isFlying yX1_isFlying, Cond.code yX1_isFlying cX1_isFlying 1 (some .boolean)]
def wsL_isFlown_r3 : List Cond := [Cond.fieldLink RX1 27 "Windlane$Kite" "lane" "I", Cond.methodLink RX2 193 yX1_endIn, Cond.instanceMethod yX1_endIn, Cond.selects RX1 yX1_endIn yX1_endIn, Cond.code yX1_endIn cX1_endIn 3 (some .int), Cond.fieldLink RX1 60 "Windlane$Kite" "length" "I", Cond.methodLink RX1 63 yX1_endAt, Cond.instanceMethod yX1_endAt, Cond.selects RX1 yX1_endAt yX1_endAt, Cond.code yX1_endAt cX1_endAt 7 (some .int), Cond.methodLink RX1 45 yX1_pullIn, Cond.methodLink RL 92 yX2_lane, Cond.instanceMethod yX2_lane, Cond.selects RX2 yX2_lane yX2_lane, Cond.code yX2_lane cX2_lane 3 (some .int), Cond.fieldLink RX2 21 "Windlane" "flyers" "[LWindlane$Kite;", Cond.fieldLink RX2 98 "Windlane$Kite" "number" "I", Cond.methodLink RX2 101 yX2_isLane, Cond.static yX2_isLane, Cond.code yX2_isLane cX2_isLane 1 (some .boolean), Cond.methodLink RL 95 yL_flies, Cond.static yL_flies, Cond.initialized RL, Cond.codeWith yL_flies cL_flies 5 (some .int) [(0, 7, 8, 16)]]
def wsL_isFlown_r4 : List Cond := [Cond.classLink RL 16 "java/lang/IllegalStateException", Cond.methodLink RL 32 yX2_fly, Cond.instanceMethod yX2_fly, Cond.selects RX2 yX2_fly yX2_fly, Cond.code yX2_fly cX2_fly 6 (some .int), Cond.classLink RX2 39 "java/lang/IllegalStateException", Cond.initialized "java/lang/IllegalStateException", Cond.fieldLink RX2 136 "Windlane$Kite" "length" "I", Cond.methodLink RX2 115 yX1_isReadyIn, Cond.instanceMethod yX1_isReadyIn, Cond.selects RX1 yX1_isReadyIn yX1_isReadyIn, Cond.code yX1_isReadyIn cX1_isReadyIn 2 (some .boolean), Cond.fieldLink RX1 24 "Windlane$Kite" "borrower" "I", Cond.fieldLink RX1 30 "Windlane$Kite" "isTorn" "Z", Cond.methodLink RX1 37 yX1_isFlying, Cond.methodLink RX1 41 yX1_holdsIn, Cond.instanceMethod yX1_holdsIn, Cond.selects RX1 yX1_holdsIn yX1_holdsIn, Cond.code yX1_holdsIn cX1_holdsIn 2 (some .boolean), Cond.methodLink RX2 123 yX1_endAt, Cond.methodLink RX2 127 yX2_wouldCross, Cond.instanceMethod yX2_wouldCross, Cond.selects RX2 yX2_wouldCross yX2_wouldCross, Cond.code yX2_wouldCross cX2_wouldCross 6 (some .boolean)]
def wsL_isFlown : List Cond := .code yL_isFlown cL_isFlown 8 (some .boolean) :: ((wsL_isFlown_r1 ++ (wsL_isFlown_r2 ++ (wsL_isFlown_r3 ++ wsL_isFlown_r4))) ++ wsX20 ++ wsX10 ++ (vx_atS RX2 32 "java/lang/IllegalArgumentException" ["java/lang/RuntimeException", "java/lang/Exception"]).filter goodWord ++ (vx_atS RX2 109 "java/lang/IndexOutOfBoundsException" ["java/lang/RuntimeException", "java/lang/Exception"]).filter goodWord ++ (vx_atS RX2 43 "java/lang/IllegalStateException" ["java/lang/RuntimeException", "java/lang/Exception"]).filter goodWord)
def wsL_isPassed_r1 : List Cond := [Cond.methodLink RL 45 yX2_about, Cond.instanceMethod yX2_about, Cond.selects RX2 yX2_about yX2_about, Cond.initialized RX2, Cond.code yX2_about cX2_about 4 (some .int), Cond.classLink RX2 28 "java/lang/IllegalArgumentException", Cond.initialized "java/lang/IllegalArgumentException", Cond.fieldLink RX2 57 "Windlane$Kite" "weight" "I", Cond.fieldLink RX2 51 "Windlane$Kite" "isTorn" "Z", Cond.fieldLink RX2 190 "Windlane$Kite" "wetHours" "I", Cond.fieldLink RX2 86 "Windlane$Kite" "borrower" "I", Cond.fieldLink RX2 133 "Windlane$Kite" "lane" "I", Cond.fieldLink RX2 112 "Windlane" "windSpeed" "I", Cond.fieldLink RX2 120 "Windlane" "windSide" "I", Cond.methodLink RX2 47 yX2_kiteAt, Cond.instanceMethod yX2_kiteAt, Cond.selects RX2 yX2_kiteAt yX2_kiteAt, Cond.code yX2_kiteAt cX2_kiteAt 3 (some (.object "Windlane$Kite")), Cond.classLink RX2 105 "java/lang/IndexOutOfBoundsException", Cond.initialized "java/lang/IndexOutOfBoundsException", Cond.fieldLink RX2 11 "Windlane" "kites" "[LWindlane$Kite;", Cond.methodLink RX2 24 yX2_isWithin, Cond.static yX2_isWithin, Cond.code yX2_isWithin cX2_isWithin 3 (some .boolean)]
def wsL_isPassed_r2 : List Cond := [Cond.methodLink RX2 93 yX1_isFlying, Cond.instanceMethod yX1_isFlying, Cond.selects RX1 yX1_isFlying yX1_isFlying, Cond.initialized RX1, Cond.code yX1_isFlying cX1_isFlying 1 (some .boolean), Cond.fieldLink RX1 27 "Windlane$Kite" "lane" "I", Cond.methodLink RX2 193 yX1_endIn, Cond.instanceMethod yX1_endIn, Cond.selects RX1 yX1_endIn yX1_endIn, Cond.code yX1_endIn cX1_endIn 3 (some .int), Cond.fieldLink RX1 60 "Windlane$Kite" "length" "I", Cond.methodLink RX1 63 yX1_endAt, Cond.instanceMethod yX1_endAt, Cond.selects RX1 yX1_endAt yX1_endAt, Cond.code yX1_endAt cX1_endAt 7 (some .int), Cond.methodLink RX1 45 yX1_pullIn, Cond.instanceMethod yX1_pullIn, Cond.selects RX1 yX1_pullIn yX1_pullIn, Cond.code yX1_pullIn cX1_pullIn 2 (some .int), Cond.fieldLink RX1 21 "Windlane$Kite" "weight" "I", Cond.methodLink RX1 53 yX1_liftIn, Cond.instanceMethod yX1_liftIn, Cond.selects RX1 yX1_liftIn yX1_liftIn, Cond.code yX1_liftIn cX1_liftIn 2 (some .int)]
def wsL_isPassed_r3 : List Cond := [Cond.fieldLink RX1 15 "Windlane$Kite" "kind" "I", Cond.fieldLink RX1 18 "Windlane$Kite" "area" "I", Cond.methodLink RL 98 yX2_pass, Cond.instanceMethod yX2_pass, Cond.selects RX2 yX2_pass yX2_pass, Cond.code yX2_pass cX2_pass 3 (some .int), Cond.methodLink RX2 163 yX2_spendHour, Cond.instanceMethod yX2_spendHour, Cond.selects RX2 yX2_spendHour yX2_spendHour, Cond.code yX2_spendHour cX2_spendHour 5 none, Cond.fieldLink RX2 158 "Windlane" "isRaining" "Z", Cond.methodLink RX2 209 yX1_spendHour, Cond.instanceMethod yX1_spendHour, Cond.selects RX1 yX1_spendHour yX1_spendHour, Cond.code yX1_spendHour cX1_spendHour 2 none, Cond.fieldLink RX1 34 "Windlane$Kite" "wetHours" "I", Cond.methodLink RX1 37 yX1_isFlying, Cond.methodLink RX2 166 yX2_countWet, Cond.instanceMethod yX2_countWet, Cond.selects RX2 yX2_countWet yX2_countWet, Cond.code yX2_countWet cX2_countWet 6 (some .int)]
def wsL_isPassed : List Cond := .code yL_isPassed cL_isPassed 9 (some .boolean) :: ((wsL_isPassed_r1 ++ (wsL_isPassed_r2 ++ wsL_isPassed_r3)) ++ wsX10 ++ wsX20 ++ (vx_atS RX2 32 "java/lang/IllegalArgumentException" ["java/lang/RuntimeException", "java/lang/Exception"]).filter goodWord ++ (vx_atS RX2 109 "java/lang/IndexOutOfBoundsException" ["java/lang/RuntimeException", "java/lang/Exception"]).filter goodWord)
def wsL_flying_r1 : List Cond := [Cond.methodLink RL 45 yX2_about, Cond.instanceMethod yX2_about, Cond.selects RX2 yX2_about yX2_about, Cond.initialized RX2, Cond.code yX2_about cX2_about 4 (some .int), Cond.classLink RX2 28 "java/lang/IllegalArgumentException", Cond.initialized "java/lang/IllegalArgumentException", Cond.fieldLink RX2 57 "Windlane$Kite" "weight" "I", Cond.fieldLink RX2 51 "Windlane$Kite" "isTorn" "Z", Cond.fieldLink RX2 190 "Windlane$Kite" "wetHours" "I", Cond.fieldLink RX2 86 "Windlane$Kite" "borrower" "I", Cond.fieldLink RX2 133 "Windlane$Kite" "lane" "I", Cond.fieldLink RX2 112 "Windlane" "windSpeed" "I", Cond.fieldLink RX2 120 "Windlane" "windSide" "I", Cond.methodLink RX2 47 yX2_kiteAt, Cond.instanceMethod yX2_kiteAt, Cond.selects RX2 yX2_kiteAt yX2_kiteAt, Cond.code yX2_kiteAt cX2_kiteAt 3 (some (.object "Windlane$Kite")), Cond.classLink RX2 105 "java/lang/IndexOutOfBoundsException", Cond.initialized "java/lang/IndexOutOfBoundsException", Cond.fieldLink RX2 11 "Windlane" "kites" "[LWindlane$Kite;", Cond.methodLink RX2 24 yX2_isWithin, Cond.static yX2_isWithin, Cond.code yX2_isWithin cX2_isWithin 3 (some .boolean)]
def wsL_flying_r2 : List Cond := [Cond.methodLink RX2 93 yX1_isFlying, Cond.instanceMethod yX1_isFlying, Cond.selects RX1 yX1_isFlying yX1_isFlying, Cond.initialized RX1, Cond.code yX1_isFlying cX1_isFlying 1 (some .boolean), Cond.fieldLink RX1 27 "Windlane$Kite" "lane" "I", Cond.methodLink RX2 193 yX1_endIn, Cond.instanceMethod yX1_endIn, Cond.selects RX1 yX1_endIn yX1_endIn, Cond.code yX1_endIn cX1_endIn 3 (some .int), Cond.fieldLink RX1 60 "Windlane$Kite" "length" "I", Cond.methodLink RX1 63 yX1_endAt, Cond.instanceMethod yX1_endAt, Cond.selects RX1 yX1_endAt yX1_endAt, Cond.code yX1_endAt cX1_endAt 7 (some .int), Cond.methodLink RX1 45 yX1_pullIn, Cond.instanceMethod yX1_pullIn, Cond.selects RX1 yX1_pullIn yX1_pullIn, Cond.code yX1_pullIn cX1_pullIn 2 (some .int), Cond.fieldLink RX1 21 "Windlane$Kite" "weight" "I", Cond.methodLink RX1 53 yX1_liftIn, Cond.instanceMethod yX1_liftIn, Cond.selects RX1 yX1_liftIn yX1_liftIn, Cond.code yX1_liftIn cX1_liftIn 2 (some .int)]
def wsL_flying_r3 : List Cond := [Cond.fieldLink RX1 15 "Windlane$Kite" "kind" "I", Cond.fieldLink RX1 18 "Windlane$Kite" "area" "I"]
def wsL_flying : List Cond := .code yL_flying cL_flying 4 (some .int) :: ((wsL_flying_r1 ++ (wsL_flying_r2 ++ wsL_flying_r3)) ++ wsX10 ++ wsX20 ++ (vx_atS RX2 32 "java/lang/IllegalArgumentException" ["java/lang/RuntimeException", "java/lang/Exception"]).filter goodWord ++ (vx_atS RX2 109 "java/lang/IndexOutOfBoundsException" ["java/lang/RuntimeException", "java/lang/Exception"]).filter goodWord)
def wsL_torn_r1 : List Cond := [Cond.methodLink RL 45 yX2_about, Cond.instanceMethod yX2_about, Cond.selects RX2 yX2_about yX2_about, Cond.initialized RX2, Cond.code yX2_about cX2_about 4 (some .int), Cond.classLink RX2 28 "java/lang/IllegalArgumentException", Cond.initialized "java/lang/IllegalArgumentException", Cond.fieldLink RX2 57 "Windlane$Kite" "weight" "I", Cond.fieldLink RX2 51 "Windlane$Kite" "isTorn" "Z", Cond.fieldLink RX2 190 "Windlane$Kite" "wetHours" "I", Cond.fieldLink RX2 86 "Windlane$Kite" "borrower" "I", Cond.fieldLink RX2 133 "Windlane$Kite" "lane" "I", Cond.fieldLink RX2 112 "Windlane" "windSpeed" "I", Cond.fieldLink RX2 120 "Windlane" "windSide" "I", Cond.methodLink RX2 47 yX2_kiteAt, Cond.instanceMethod yX2_kiteAt, Cond.selects RX2 yX2_kiteAt yX2_kiteAt, Cond.code yX2_kiteAt cX2_kiteAt 3 (some (.object "Windlane$Kite")), Cond.classLink RX2 105 "java/lang/IndexOutOfBoundsException", Cond.initialized "java/lang/IndexOutOfBoundsException", Cond.fieldLink RX2 11 "Windlane" "kites" "[LWindlane$Kite;", Cond.methodLink RX2 24 yX2_isWithin, Cond.static yX2_isWithin, Cond.code yX2_isWithin cX2_isWithin 3 (some .boolean)]
def wsL_torn_r2 : List Cond := [Cond.methodLink RX2 93 yX1_isFlying, Cond.instanceMethod yX1_isFlying, Cond.selects RX1 yX1_isFlying yX1_isFlying, Cond.initialized RX1, Cond.code yX1_isFlying cX1_isFlying 1 (some .boolean), Cond.fieldLink RX1 27 "Windlane$Kite" "lane" "I", Cond.methodLink RX2 193 yX1_endIn, Cond.instanceMethod yX1_endIn, Cond.selects RX1 yX1_endIn yX1_endIn, Cond.code yX1_endIn cX1_endIn 3 (some .int), Cond.fieldLink RX1 60 "Windlane$Kite" "length" "I", Cond.methodLink RX1 63 yX1_endAt, Cond.instanceMethod yX1_endAt, Cond.selects RX1 yX1_endAt yX1_endAt, Cond.code yX1_endAt cX1_endAt 7 (some .int), Cond.methodLink RX1 45 yX1_pullIn, Cond.instanceMethod yX1_pullIn, Cond.selects RX1 yX1_pullIn yX1_pullIn, Cond.code yX1_pullIn cX1_pullIn 2 (some .int), Cond.fieldLink RX1 21 "Windlane$Kite" "weight" "I", Cond.methodLink RX1 53 yX1_liftIn, Cond.instanceMethod yX1_liftIn, Cond.selects RX1 yX1_liftIn yX1_liftIn, Cond.code yX1_liftIn cX1_liftIn 2 (some .int)]
def wsL_torn_r3 : List Cond := [Cond.fieldLink RX1 15 "Windlane$Kite" "kind" "I", Cond.fieldLink RX1 18 "Windlane$Kite" "area" "I"]
def wsL_torn : List Cond := .code yL_torn cL_torn 4 (some .int) :: ((wsL_torn_r1 ++ (wsL_torn_r2 ++ wsL_torn_r3)) ++ wsX10 ++ wsX20 ++ (vx_atS RX2 32 "java/lang/IllegalArgumentException" ["java/lang/RuntimeException", "java/lang/Exception"]).filter goodWord ++ (vx_atS RX2 109 "java/lang/IndexOutOfBoundsException" ["java/lang/RuntimeException", "java/lang/Exception"]).filter goodWord)
def wsL_isBlown_r1 : List Cond := [Cond.methodLink RL 101 yL_flying, Cond.static yL_flying, Cond.initialized RL, Cond.code yL_flying cL_flying 4 (some .int), Cond.methodLink RL 45 yX2_about, Cond.instanceMethod yX2_about, Cond.selects RX2 yX2_about yX2_about, Cond.initialized RX2, Cond.code yX2_about cX2_about 4 (some .int), Cond.classLink RX2 28 "java/lang/IllegalArgumentException", Cond.initialized "java/lang/IllegalArgumentException", Cond.fieldLink RX2 57 "Windlane$Kite" "weight" "I", Cond.fieldLink RX2 51 "Windlane$Kite" "isTorn" "Z", Cond.fieldLink RX2 190 "Windlane$Kite" "wetHours" "I", Cond.fieldLink RX2 86 "Windlane$Kite" "borrower" "I", Cond.fieldLink RX2 133 "Windlane$Kite" "lane" "I", Cond.fieldLink RX2 112 "Windlane" "windSpeed" "I", Cond.fieldLink RX2 120 "Windlane" "windSide" "I", Cond.methodLink RX2 47 yX2_kiteAt, Cond.instanceMethod yX2_kiteAt, Cond.selects RX2 yX2_kiteAt yX2_kiteAt, Cond.code yX2_kiteAt cX2_kiteAt 3 (some (.object "Windlane$Kite")), Cond.classLink RX2 105 "java/lang/IndexOutOfBoundsException", Cond.initialized "java/lang/IndexOutOfBoundsException"]
def wsL_isBlown_r2 : List Cond := [Cond.fieldLink RX2 11 "Windlane" "kites" "[LWindlane$Kite;", Cond.methodLink RX2 24 yX2_isWithin, Cond.static yX2_isWithin, Cond.code yX2_isWithin cX2_isWithin 3 (some .boolean), Cond.methodLink RX2 93 yX1_isFlying, Cond.instanceMethod yX1_isFlying, Cond.selects RX1 yX1_isFlying yX1_isFlying, Cond.initialized RX1, Cond.code yX1_isFlying cX1_isFlying 1 (some .boolean), Cond.fieldLink RX1 27 "Windlane$Kite" "lane" "I", Cond.methodLink RX2 193 yX1_endIn, Cond.instanceMethod yX1_endIn, Cond.selects RX1 yX1_endIn yX1_endIn, Cond.code yX1_endIn cX1_endIn 3 (some .int), Cond.fieldLink RX1 60 "Windlane$Kite" "length" "I", Cond.methodLink RX1 63 yX1_endAt, Cond.instanceMethod yX1_endAt, Cond.selects RX1 yX1_endAt yX1_endAt, Cond.code yX1_endAt cX1_endAt 7 (some .int), Cond.methodLink RX1 45 yX1_pullIn, Cond.instanceMethod yX1_pullIn, Cond.selects RX1 yX1_pullIn yX1_pullIn, Cond.code yX1_pullIn cX1_pullIn 2 (some .int), Cond.fieldLink RX1 21 "Windlane$Kite" "weight" "I"]
def wsL_isBlown_r3 : List Cond := [Cond.methodLink RX1 53 yX1_liftIn, Cond.instanceMethod yX1_liftIn, Cond.selects RX1 yX1_liftIn yX1_liftIn, Cond.code yX1_liftIn cX1_liftIn 2 (some .int), Cond.fieldLink RX1 15 "Windlane$Kite" "kind" "I", Cond.fieldLink RX1 18 "Windlane$Kite" "area" "I", Cond.methodLink RL 105 yL_torn, Cond.static yL_torn, Cond.code yL_torn cL_torn 4 (some .int), Cond.methodLink RL 71 yX2_called, Cond.instanceMethod yX2_called, Cond.selects RX2 yX2_called yX2_called, Cond.code yX2_called cX2_called 1 (some .int), Cond.fieldLink RX2 149 "Windlane" "calledCount" "I", Cond.methodLink RL 108 yX2_wind, Cond.instanceMethod yX2_wind, Cond.selects RX2 yX2_wind yX2_wind, Cond.code yX2_wind cX2_wind 4 (some .int), Cond.methodLink RX2 144 yX2_isSpeed, Cond.static yX2_isSpeed, Cond.code yX2_isSpeed cX2_isSpeed 1 (some .boolean), Cond.methodLink RX2 152 yX2_callDownUnheld, Cond.instanceMethod yX2_callDownUnheld, Cond.selects RX2 yX2_callDownUnheld yX2_callDownUnheld]
def wsL_isBlown_r4 : List Cond := [Cond.code yX2_callDownUnheld cX2_callDownUnheld 3 none, Cond.fieldLink RX2 21 "Windlane" "flyers" "[LWindlane$Kite;", Cond.methodLink RX2 187 yX1_holdsIn, Cond.instanceMethod yX1_holdsIn, Cond.selects RX1 yX1_holdsIn yX1_holdsIn, Cond.code yX1_holdsIn cX1_holdsIn 2 (some .boolean), Cond.methodLink RX2 172 yX1_pullIn, Cond.methodLink RX2 203 yX2_callDown, Cond.instanceMethod yX2_callDown, Cond.selects RX2 yX2_callDown yX2_callDown, Cond.code yX2_callDown cX2_callDown 2 none, Cond.methodLink RX2 141 yX2_clearLane, Cond.instanceMethod yX2_clearLane, Cond.selects RX2 yX2_clearLane yX2_clearLane, Cond.code yX2_clearLane cX2_clearLane 3 none, Cond.methodLink RX2 101 yX2_isLane, Cond.static yX2_isLane, Cond.code yX2_isLane cX2_isLane 1 (some .boolean), Cond.methodLink RX2 155 yX2_callDownCrossing, Cond.instanceMethod yX2_callDownCrossing, Cond.selects RX2 yX2_callDownCrossing yX2_callDownCrossing, Cond.code yX2_callDownCrossing cX2_callDownCrossing 3 none, Cond.methodLink RX2 206 yX2_weakerLaneOfFirstCrossing, Cond.instanceMethod yX2_weakerLaneOfFirstCrossing]
def wsL_isBlown_r5 : List Cond := [Cond.selects RX2 yX2_weakerLaneOfFirstCrossing yX2_weakerLaneOfFirstCrossing, Cond.code yX2_weakerLaneOfFirstCrossing cX2_weakerLaneOfFirstCrossing 5 (some .int)]
def wsL_isBlown : List Cond := .code yL_isBlown cL_isBlown 8 (some .boolean) :: ((wsL_isBlown_r1 ++ (wsL_isBlown_r2 ++ (wsL_isBlown_r3 ++ (wsL_isBlown_r4 ++ wsL_isBlown_r5)))) ++ wsX10 ++ wsX20 ++ (vx_atS RX2 32 "java/lang/IllegalArgumentException" ["java/lang/RuntimeException", "java/lang/Exception"]).filter goodWord ++ (vx_atS RX2 109 "java/lang/IndexOutOfBoundsException" ["java/lang/RuntimeException", "java/lang/Exception"]).filter goodWord)
def wsL_step_r1 : List Cond := [Cond.methodLink RL 39 yL_kites, Cond.static yL_kites, Cond.initialized RL, Cond.codeWith yL_kites cL_kites 5 (some .int) [(0, 7, 8, 16)], Cond.classLink RL 16 "java/lang/IllegalStateException", Cond.methodLink RL 10 yX2_kite, Cond.instanceMethod yX2_kite, Cond.selects RX2 yX2_kite yX2_kite, Cond.initialized RX2, Cond.code yX2_kite cX2_kite 5 (some .int), Cond.classLink RX2 28 "java/lang/IllegalArgumentException", Cond.initialized "java/lang/IllegalArgumentException", Cond.classLink RX2 39 "java/lang/IllegalStateException", Cond.initialized "java/lang/IllegalStateException", Cond.fieldLink RX2 35 "Windlane" "kiteCount" "I", Cond.fieldLink RX2 11 "Windlane" "kites" "[LWindlane$Kite;", Cond.classLink RX2 9 RX1, Cond.instantiable RX1 9, Cond.initialized RX1, Cond.methodLink RX2 24 yX2_isWithin, Cond.static yX2_isWithin, Cond.code yX2_isWithin cX2_isWithin 3 (some .boolean), Cond.methodLink RX2 44 yX1_init, Cond.instanceMethod yX1_init]
def wsL_step_r2 : List Cond := [Cond.code yX1_init cX1_init 5 none, Cond.methodLink RX1 3 objectInit, Cond.instanceMethod objectInit, Cond.code objectInit ⟨#[0xb1]⟩ 1 none, Cond.fieldLink RX1 9 "Windlane$Kite" "number" "I", Cond.fieldLink RX1 15 "Windlane$Kite" "kind" "I", Cond.fieldLink RX1 18 "Windlane$Kite" "area" "I", Cond.fieldLink RX1 21 "Windlane$Kite" "weight" "I", Cond.fieldLink RX1 24 "Windlane$Kite" "borrower" "I", Cond.fieldLink RX1 27 "Windlane$Kite" "lane" "I", Cond.methodLink RL 45 yX2_about, Cond.instanceMethod yX2_about, Cond.selects RX2 yX2_about yX2_about, Cond.code yX2_about cX2_about 4 (some .int), Cond.fieldLink RX2 57 "Windlane$Kite" "weight" "I", Cond.fieldLink RX2 51 "Windlane$Kite" "isTorn" "Z", Cond.fieldLink RX2 190 "Windlane$Kite" "wetHours" "I", Cond.fieldLink RX2 86 "Windlane$Kite" "borrower" "I", Cond.fieldLink RX2 133 "Windlane$Kite" "lane" "I", Cond.fieldLink RX2 112 "Windlane" "windSpeed" "I", Cond.fieldLink RX2 120 "Windlane" "windSide" "I", Cond.methodLink RX2 47 yX2_kiteAt, Cond.instanceMethod yX2_kiteAt, Cond.selects RX2 yX2_kiteAt yX2_kiteAt]
def wsL_step_r3 : List Cond := [Cond.code yX2_kiteAt cX2_kiteAt 3 (some (.object "Windlane$Kite")), Cond.classLink RX2 105 "java/lang/IndexOutOfBoundsException", Cond.initialized "java/lang/IndexOutOfBoundsException", Cond.methodLink RX2 93 yX1_isFlying, Cond.instanceMethod yX1_isFlying, Cond.selects RX1 yX1_isFlying yX1_isFlying, Cond.code yX1_isFlying cX1_isFlying 1 (some .boolean), Cond.methodLink RX2 193 yX1_endIn, Cond.instanceMethod yX1_endIn, Cond.selects RX1 yX1_endIn yX1_endIn, Cond.code yX1_endIn cX1_endIn 3 (some .int), Cond.fieldLink RX1 60 "Windlane$Kite" "length" "I", Cond.methodLink RX1 63 yX1_endAt, Cond.instanceMethod yX1_endAt, Cond.selects RX1 yX1_endAt yX1_endAt, Cond.code yX1_endAt cX1_endAt 7 (some .int), Cond.methodLink RX1 45 yX1_pullIn, Cond.instanceMethod yX1_pullIn, Cond.selects RX1 yX1_pullIn yX1_pullIn, Cond.code yX1_pullIn cX1_pullIn 2 (some .int), Cond.methodLink RX1 53 yX1_liftIn, Cond.instanceMethod yX1_liftIn, Cond.selects RX1 yX1_liftIn yX1_liftIn, Cond.code yX1_liftIn cX1_liftIn 2 (some .int)]
def wsL_step_r4 : List Cond := [Cond.methodLink RL 49 yX2_pull, Cond.instanceMethod yX2_pull, Cond.selects RX2 yX2_pull yX2_pull, Cond.code yX2_pull cX2_pull 4 (some .int), Cond.methodLink RX2 144 yX2_isSpeed, Cond.static yX2_isSpeed, Cond.code yX2_isSpeed cX2_isSpeed 1 (some .boolean), Cond.methodLink RX2 172 yX1_pullIn, Cond.methodLink RL 52 yL_borrowers, Cond.static yL_borrowers, Cond.codeWith yL_borrowers cL_borrowers 3 (some .int) [(0, 5, 6, 16)], Cond.methodLink RL 18 yX2_borrower, Cond.instanceMethod yX2_borrower, Cond.selects RX2 yX2_borrower yX2_borrower, Cond.code yX2_borrower cX2_borrower 3 (some .int), Cond.fieldLink RX2 64 "Windlane" "borrowerCount" "I", Cond.fieldLink RX2 17 "Windlane" "borrowers" "[LWindlane$Borrower;", Cond.classLink RX2 15 RX0, Cond.instantiable RX0 2, Cond.initialized RX0, Cond.methodLink RX2 69 yX0_init, Cond.instanceMethod yX0_init, Cond.code yX0_init cX0_init 2 none, Cond.methodLink RX0 1 objectInit]
def wsL_step_r5 : List Cond := [Cond.fieldLink RX0 7 "Windlane$Borrower" "skill" "I", Cond.methodLink RL 56 yL_kiteOf, Cond.static yL_kiteOf, Cond.code yL_kiteOf cL_kiteOf 4 (some .int), Cond.methodLink RL 60 yL_lends, Cond.static yL_lends, Cond.codeWith yL_lends cL_lends 4 (some .int) [(0, 7, 8, 16)], Cond.methodLink RL 25 yX2_lend, Cond.instanceMethod yX2_lend, Cond.selects RX2 yX2_lend yX2_lend, Cond.code yX2_lend cX2_lend 5 none, Cond.fieldLink RX2 89 "Windlane$Borrower" "held" "LWindlane$Kite;", Cond.methodLink RX2 72 yX2_borrowerAt, Cond.instanceMethod yX2_borrowerAt, Cond.selects RX2 yX2_borrowerAt yX2_borrowerAt, Cond.code yX2_borrowerAt cX2_borrowerAt 3 (some (.object "Windlane$Borrower")), Cond.methodLink RX2 76 yX1_isLendable, Cond.instanceMethod yX1_isLendable, Cond.selects RX1 yX1_isLendable yX1_isLendable, Cond.code yX1_isLendable cX1_isLendable 1 (some .boolean), Cond.fieldLink RX1 30 "Windlane$Kite" "isTorn" "Z", Cond.fieldLink RX1 34 "Windlane$Kite" "wetHours" "I", Cond.methodLink RX2 80 yX0_canTake, Cond.instanceMethod yX0_canTake]
def wsL_step_r6 : List Cond := [Cond.selects RX0 yX0_canTake yX0_canTake, Cond.code yX0_canTake cX0_canTake 2 (some .boolean), Cond.fieldLink RX0 13 "Windlane$Borrower" "held" "LWindlane$Kite;", Cond.fieldLink RX0 17 "Windlane$Kite" "kind" "I", Cond.methodLink RL 64 yL_backs, Cond.static yL_backs, Cond.codeWith yL_backs cL_backs 3 (some .int) [(0, 5, 6, 16)], Cond.methodLink RL 29 yX2_giveBack, Cond.instanceMethod yX2_giveBack, Cond.selects RX2 yX2_giveBack yX2_giveBack, Cond.code yX2_giveBack cX2_giveBack 4 (some .int), Cond.fieldLink RX2 98 "Windlane$Kite" "number" "I", Cond.methodLink RL 67 yL_isFlown, Cond.static yL_isFlown, Cond.code yL_isFlown cL_isFlown 8 (some .boolean), Cond.constant RL 35 (-99999), Cond.methodLink RL 92 yX2_lane, Cond.instanceMethod yX2_lane, Cond.selects RX2 yX2_lane yX2_lane, Cond.code yX2_lane cX2_lane 3 (some .int), Cond.fieldLink RX2 21 "Windlane" "flyers" "[LWindlane$Kite;", Cond.methodLink RX2 101 yX2_isLane, Cond.static yX2_isLane, Cond.code yX2_isLane cX2_isLane 1 (some .boolean)]
def wsL_step_r7 : List Cond := [Cond.methodLink RL 95 yL_flies, Cond.static yL_flies, Cond.codeWith yL_flies cL_flies 5 (some .int) [(0, 7, 8, 16)], Cond.methodLink RL 32 yX2_fly, Cond.instanceMethod yX2_fly, Cond.selects RX2 yX2_fly yX2_fly, Cond.code yX2_fly cX2_fly 6 (some .int), Cond.fieldLink RX2 136 "Windlane$Kite" "length" "I", Cond.methodLink RX2 115 yX1_isReadyIn, Cond.instanceMethod yX1_isReadyIn, Cond.selects RX1 yX1_isReadyIn yX1_isReadyIn, Cond.code yX1_isReadyIn cX1_isReadyIn 2 (some .boolean), Cond.methodLink RX1 37 yX1_isFlying, Cond.methodLink RX1 41 yX1_holdsIn, Cond.instanceMethod yX1_holdsIn, Cond.selects RX1 yX1_holdsIn yX1_holdsIn, Cond.code yX1_holdsIn cX1_holdsIn 2 (some .boolean), Cond.methodLink RX2 123 yX1_endAt, Cond.methodLink RX2 127 yX2_wouldCross, Cond.instanceMethod yX2_wouldCross, Cond.selects RX2 yX2_wouldCross yX2_wouldCross, Cond.code yX2_wouldCross cX2_wouldCross 6 (some .boolean), Cond.methodLink RL 71 yX2_called, Cond.instanceMethod yX2_called]
def wsL_step_r8 : List Cond := [Cond.selects RX2 yX2_called yX2_called, Cond.code yX2_called cX2_called 1 (some .int), Cond.fieldLink RX2 149 "Windlane" "calledCount" "I", Cond.methodLink RL 75 yL_lands, Cond.static yL_lands, Cond.codeWith yL_lands cL_lands 3 (some .int) [(0, 5, 6, 16)], Cond.methodLink RL 36 yX2_land, Cond.instanceMethod yX2_land, Cond.selects RX2 yX2_land yX2_land, Cond.code yX2_land cX2_land 4 (some .int), Cond.methodLink RX2 141 yX2_clearLane, Cond.instanceMethod yX2_clearLane, Cond.selects RX2 yX2_clearLane yX2_clearLane, Cond.code yX2_clearLane cX2_clearLane 3 none, Cond.methodLink RL 78 yL_patches, Cond.static yL_patches, Cond.codeWith yL_patches cL_patches 3 (some .int) [(0, 5, 6, 16)], Cond.methodLink RL 22 yX2_patch, Cond.instanceMethod yX2_patch, Cond.selects RX2 yX2_patch yX2_patch, Cond.code yX2_patch cX2_patch 3 (some .int), Cond.methodLink RL 81 yX2_rain, Cond.instanceMethod yX2_rain, Cond.selects RX2 yX2_rain yX2_rain]
def wsL_step_r9 : List Cond := [Cond.code yX2_rain cX2_rain 3 (some .boolean), Cond.fieldLink RX2 158 "Windlane" "isRaining" "Z", Cond.methodLink RL 85 yL_isPassed, Cond.static yL_isPassed, Cond.code yL_isPassed cL_isPassed 9 (some .boolean), Cond.methodLink RL 98 yX2_pass, Cond.instanceMethod yX2_pass, Cond.selects RX2 yX2_pass yX2_pass, Cond.code yX2_pass cX2_pass 3 (some .int), Cond.methodLink RX2 163 yX2_spendHour, Cond.instanceMethod yX2_spendHour, Cond.selects RX2 yX2_spendHour yX2_spendHour, Cond.code yX2_spendHour cX2_spendHour 5 none, Cond.methodLink RX2 209 yX1_spendHour, Cond.instanceMethod yX1_spendHour, Cond.selects RX1 yX1_spendHour yX1_spendHour, Cond.code yX1_spendHour cX1_spendHour 2 none, Cond.methodLink RX2 166 yX2_countWet, Cond.instanceMethod yX2_countWet, Cond.selects RX2 yX2_countWet yX2_countWet, Cond.code yX2_countWet cX2_countWet 6 (some .int), Cond.methodLink RL 89 yL_isBlown, Cond.static yL_isBlown, Cond.code yL_isBlown cL_isBlown 8 (some .boolean)]
def wsL_step_r10 : List Cond := [Cond.methodLink RL 101 yL_flying, Cond.static yL_flying, Cond.code yL_flying cL_flying 4 (some .int), Cond.methodLink RL 105 yL_torn, Cond.static yL_torn, Cond.code yL_torn cL_torn 4 (some .int), Cond.methodLink RL 108 yX2_wind, Cond.instanceMethod yX2_wind, Cond.selects RX2 yX2_wind yX2_wind, Cond.code yX2_wind cX2_wind 4 (some .int), Cond.methodLink RX2 152 yX2_callDownUnheld, Cond.instanceMethod yX2_callDownUnheld, Cond.selects RX2 yX2_callDownUnheld yX2_callDownUnheld, Cond.code yX2_callDownUnheld cX2_callDownUnheld 3 none, Cond.methodLink RX2 187 yX1_holdsIn, Cond.methodLink RX2 203 yX2_callDown, Cond.instanceMethod yX2_callDown, Cond.selects RX2 yX2_callDown yX2_callDown, Cond.code yX2_callDown cX2_callDown 2 none, Cond.methodLink RX2 155 yX2_callDownCrossing, Cond.instanceMethod yX2_callDownCrossing, Cond.selects RX2 yX2_callDownCrossing yX2_callDownCrossing, Cond.code yX2_callDownCrossing cX2_callDownCrossing 3 none, Cond.methodLink RX2 206 yX2_weakerLaneOfFirstCrossing]
def wsL_step_r11 : List Cond := [Cond.instanceMethod yX2_weakerLaneOfFirstCrossing, Cond.selects RX2 yX2_weakerLaneOfFirstCrossing yX2_weakerLaneOfFirstCrossing, Cond.code yX2_weakerLaneOfFirstCrossing cX2_weakerLaneOfFirstCrossing 5 (some .int)]
def wsL_step : List Cond := .code yL_step cL_step 24 (some .boolean) :: ((wsL_step_r1 ++ (wsL_step_r2 ++ (wsL_step_r3 ++ (wsL_step_r4 ++ (wsL_step_r5 ++ (wsL_step_r6 ++ (wsL_step_r7 ++ (wsL_step_r8 ++ (wsL_step_r9 ++ (wsL_step_r10 ++ wsL_step_r11)))))))))) ++ wsX20 ++ wsX10 ++ wsX00 ++ (vx_atS RX2 32 "java/lang/IllegalArgumentException" ["java/lang/RuntimeException", "java/lang/Exception"]).filter goodWord ++ (vx_atS RX2 43 "java/lang/IllegalStateException" ["java/lang/RuntimeException", "java/lang/Exception"]).filter goodWord ++ (vx_atS RX2 109 "java/lang/IndexOutOfBoundsException" ["java/lang/RuntimeException", "java/lang/Exception"]).filter goodWord)
def wsL_isWhole_r1 : List Cond := [Cond.constant RL 111 (-100000), Cond.methodLink RL 92 yX2_lane, Cond.instanceMethod yX2_lane, Cond.selects RX2 yX2_lane yX2_lane, Cond.initialized RX2, Cond.code yX2_lane cX2_lane 3 (some .int), Cond.classLink RX2 105 "java/lang/IndexOutOfBoundsException", Cond.initialized "java/lang/IndexOutOfBoundsException", Cond.fieldLink RX2 21 "Windlane" "flyers" "[LWindlane$Kite;", Cond.fieldLink RX2 98 "Windlane$Kite" "number" "I", Cond.methodLink RX2 101 yX2_isLane, Cond.static yX2_isLane, Cond.code yX2_isLane cX2_isLane 1 (some .boolean), Cond.methodLink RX2 24 yX2_isWithin, Cond.static yX2_isWithin, Cond.code yX2_isWithin cX2_isWithin 3 (some .boolean), Cond.methodLink RL 49 yX2_pull, Cond.instanceMethod yX2_pull, Cond.selects RX2 yX2_pull yX2_pull, Cond.code yX2_pull cX2_pull 4 (some .int), Cond.classLink RX2 28 "java/lang/IllegalArgumentException", Cond.initialized "java/lang/IllegalArgumentException", Cond.methodLink RX2 47 yX2_kiteAt, Cond.instanceMethod yX2_kiteAt]
def wsL_isWhole_r2 : List Cond := [Cond.selects RX2 yX2_kiteAt yX2_kiteAt, Cond.code yX2_kiteAt cX2_kiteAt 3 (some (.object "Windlane$Kite")), Cond.fieldLink RX2 11 "Windlane" "kites" "[LWindlane$Kite;", Cond.methodLink RX2 144 yX2_isSpeed, Cond.static yX2_isSpeed, Cond.code yX2_isSpeed cX2_isSpeed 1 (some .boolean), Cond.methodLink RX2 172 yX1_pullIn, Cond.instanceMethod yX1_pullIn, Cond.selects RX1 yX1_pullIn yX1_pullIn, Cond.initialized RX1, Cond.code yX1_pullIn cX1_pullIn 2 (some .int), Cond.fieldLink RX1 21 "Windlane$Kite" "weight" "I", Cond.methodLink RX1 53 yX1_liftIn, Cond.instanceMethod yX1_liftIn, Cond.selects RX1 yX1_liftIn yX1_liftIn, Cond.code yX1_liftIn cX1_liftIn 2 (some .int), Cond.fieldLink RX1 15 "Windlane$Kite" "kind" "I", Cond.fieldLink RX1 18 "Windlane$Kite" "area" "I", Cond.methodLink RL 45 yX2_about, Cond.instanceMethod yX2_about, Cond.selects RX2 yX2_about yX2_about, Cond.code yX2_about cX2_about 4 (some .int), Cond.fieldLink RX2 57 "Windlane$Kite" "weight" "I", Cond.fieldLink RX2 51 "Windlane$Kite" "isTorn" "Z"]
def wsL_isWhole_r3 : List Cond := [Cond.fieldLink RX2 190 "Windlane$Kite" "wetHours" "I", Cond.fieldLink RX2 86 "Windlane$Kite" "borrower" "I", Cond.fieldLink RX2 133 "Windlane$Kite" "lane" "I", Cond.fieldLink RX2 112 "Windlane" "windSpeed" "I", Cond.fieldLink RX2 120 "Windlane" "windSide" "I", Cond.methodLink RX2 93 yX1_isFlying, Cond.instanceMethod yX1_isFlying, Cond.selects RX1 yX1_isFlying yX1_isFlying, Cond.code yX1_isFlying cX1_isFlying 1 (some .boolean), Cond.fieldLink RX1 27 "Windlane$Kite" "lane" "I", Cond.methodLink RX2 193 yX1_endIn, Cond.instanceMethod yX1_endIn, Cond.selects RX1 yX1_endIn yX1_endIn, Cond.code yX1_endIn cX1_endIn 3 (some .int), Cond.fieldLink RX1 60 "Windlane$Kite" "length" "I", Cond.methodLink RX1 63 yX1_endAt, Cond.instanceMethod yX1_endAt, Cond.selects RX1 yX1_endAt yX1_endAt, Cond.code yX1_endAt cX1_endAt 7 (some .int), Cond.methodLink RX1 45 yX1_pullIn, Cond.methodLink RL 112 yX2_pullAnew, Cond.instanceMethod yX2_pullAnew, Cond.selects RX2 yX2_pullAnew yX2_pullAnew, Cond.code yX2_pullAnew cX2_pullAnew 4 (some .int)]
def wsL_isWhole_r4 : List Cond := [Cond.methodLink RX2 176 yX1_pullByStepsTo, Cond.instanceMethod yX1_pullByStepsTo, Cond.selects RX1 yX1_pullByStepsTo yX1_pullByStepsTo, Cond.code yX1_pullByStepsTo cX1_pullByStepsTo 4 (some .int), Cond.methodLink RX1 56 yX1_liftAddedBy, Cond.instanceMethod yX1_liftAddedBy, Cond.selects RX1 yX1_liftAddedBy yX1_liftAddedBy, Cond.code yX1_liftAddedBy cX1_liftAddedBy 2 (some .int), Cond.methodLink RL 115 yX2_window, Cond.instanceMethod yX2_window, Cond.selects RX2 yX2_window yX2_window, Cond.code yX2_window cX2_window 6 (some .int), Cond.methodLink RX2 187 yX1_holdsIn, Cond.instanceMethod yX1_holdsIn, Cond.selects RX1 yX1_holdsIn yX1_holdsIn, Cond.code yX1_holdsIn cX1_holdsIn 2 (some .boolean)]
def wsL_isWhole : List Cond := .code yL_isWhole cL_isWhole 10 (some .boolean) :: ((wsL_isWhole_r1 ++ (wsL_isWhole_r2 ++ (wsL_isWhole_r3 ++ wsL_isWhole_r4))) ++ wsX20 ++ wsX10 ++ (vx_atS RX2 109 "java/lang/IndexOutOfBoundsException" ["java/lang/RuntimeException", "java/lang/Exception"]).filter goodWord ++ (vx_atS RX2 32 "java/lang/IllegalArgumentException" ["java/lang/RuntimeException", "java/lang/Exception"]).filter goodWord)
def wsL_law0_r1 : List Cond := [Cond.classLink RL 11 RX2, Cond.instantiable RX2 9, Cond.initialized RX2, Cond.arrayClass .int, Cond.methodLink RL 119 yX2_init, Cond.instanceMethod yX2_init, Cond.code yX2_init cX2_init 1 none, Cond.methodLink RX2 3 objectInit, Cond.instanceMethod objectInit, Cond.code objectInit ⟨#[0xb1]⟩ 1 none, Cond.classLink RX2 9 RX1, Cond.fieldLink RX2 11 "Windlane" "kites" "[LWindlane$Kite;", Cond.classLink RX2 15 RX0, Cond.fieldLink RX2 17 "Windlane" "borrowers" "[LWindlane$Borrower;", Cond.fieldLink RX2 21 "Windlane" "flyers" "[LWindlane$Kite;", Cond.methodLink RL 71 yX2_called, Cond.instanceMethod yX2_called, Cond.selects RX2 yX2_called yX2_called, Cond.code yX2_called cX2_called 1 (some .int), Cond.fieldLink RX2 149 "Windlane" "calledCount" "I", Cond.methodLink RL 92 yX2_lane, Cond.instanceMethod yX2_lane, Cond.selects RX2 yX2_lane yX2_lane, Cond.code yX2_lane cX2_lane 3 (some .int)]
def wsL_law0_r2 : List Cond := [Cond.classLink RX2 105 "java/lang/IndexOutOfBoundsException", Cond.initialized "java/lang/IndexOutOfBoundsException", Cond.fieldLink RX2 98 "Windlane$Kite" "number" "I", Cond.methodLink RX2 101 yX2_isLane, Cond.static yX2_isLane, Cond.code yX2_isLane cX2_isLane 1 (some .boolean), Cond.methodLink RX2 24 yX2_isWithin, Cond.static yX2_isWithin, Cond.code yX2_isWithin cX2_isWithin 3 (some .boolean), Cond.methodLink RL 120 yL_draw, Cond.static yL_draw, Cond.initialized RL, Cond.code yL_draw cL_draw 2 (some .int), Cond.constant RL 7 (2147483647), Cond.constant RL 8 (104729), Cond.constant RL 9 (65521), Cond.methodLink RL 124 yL_step, Cond.static yL_step, Cond.code yL_step cL_step 24 (some .boolean), Cond.methodLink RL 39 yL_kites, Cond.static yL_kites, Cond.codeWith yL_kites cL_kites 5 (some .int) [(0, 7, 8, 16)], Cond.classLink RL 16 "java/lang/IllegalStateException", Cond.methodLink RL 10 yX2_kite]
def wsL_law0_r3 : List Cond := [Cond.instanceMethod yX2_kite, Cond.selects RX2 yX2_kite yX2_kite, Cond.code yX2_kite cX2_kite 5 (some .int), Cond.classLink RX2 28 "java/lang/IllegalArgumentException", Cond.initialized "java/lang/IllegalArgumentException", Cond.classLink RX2 39 "java/lang/IllegalStateException", Cond.initialized "java/lang/IllegalStateException", Cond.fieldLink RX2 35 "Windlane" "kiteCount" "I", Cond.instantiable RX1 9, Cond.initialized RX1, Cond.methodLink RX2 44 yX1_init, Cond.instanceMethod yX1_init, Cond.code yX1_init cX1_init 5 none, Cond.methodLink RX1 3 objectInit, Cond.fieldLink RX1 9 "Windlane$Kite" "number" "I", Cond.fieldLink RX1 15 "Windlane$Kite" "kind" "I", Cond.fieldLink RX1 18 "Windlane$Kite" "area" "I", Cond.fieldLink RX1 21 "Windlane$Kite" "weight" "I", Cond.fieldLink RX1 24 "Windlane$Kite" "borrower" "I", Cond.fieldLink RX1 27 "Windlane$Kite" "lane" "I", Cond.methodLink RL 45 yX2_about, Cond.instanceMethod yX2_about, Cond.selects RX2 yX2_about yX2_about, Cond.code yX2_about cX2_about 4 (some .int)]
def wsL_law0_r4 : List Cond := [Cond.fieldLink RX2 57 "Windlane$Kite" "weight" "I", Cond.fieldLink RX2 51 "Windlane$Kite" "isTorn" "Z", Cond.fieldLink RX2 190 "Windlane$Kite" "wetHours" "I", Cond.fieldLink RX2 86 "Windlane$Kite" "borrower" "I", Cond.fieldLink RX2 133 "Windlane$Kite" "lane" "I", Cond.fieldLink RX2 112 "Windlane" "windSpeed" "I", Cond.fieldLink RX2 120 "Windlane" "windSide" "I", Cond.methodLink RX2 47 yX2_kiteAt, Cond.instanceMethod yX2_kiteAt, Cond.selects RX2 yX2_kiteAt yX2_kiteAt, Cond.code yX2_kiteAt cX2_kiteAt 3 (some (.object "Windlane$Kite")), Cond.methodLink RX2 93 yX1_isFlying, Cond.instanceMethod yX1_isFlying, Cond.selects RX1 yX1_isFlying yX1_isFlying, Cond.code yX1_isFlying cX1_isFlying 1 (some .boolean), Cond.methodLink RX2 193 yX1_endIn, Cond.instanceMethod yX1_endIn, Cond.selects RX1 yX1_endIn yX1_endIn, Cond.code yX1_endIn cX1_endIn 3 (some .int), Cond.fieldLink RX1 60 "Windlane$Kite" "length" "I", Cond.methodLink RX1 63 yX1_endAt, Cond.instanceMethod yX1_endAt, Cond.selects RX1 yX1_endAt yX1_endAt, Cond.code yX1_endAt cX1_endAt 7 (some .int)]
def wsL_law0_r5 : List Cond := [Cond.methodLink RX1 45 yX1_pullIn, Cond.instanceMethod yX1_pullIn, Cond.selects RX1 yX1_pullIn yX1_pullIn, Cond.code yX1_pullIn cX1_pullIn 2 (some .int), Cond.methodLink RX1 53 yX1_liftIn, Cond.instanceMethod yX1_liftIn, Cond.selects RX1 yX1_liftIn yX1_liftIn, Cond.code yX1_liftIn cX1_liftIn 2 (some .int), Cond.methodLink RL 49 yX2_pull, Cond.instanceMethod yX2_pull, Cond.selects RX2 yX2_pull yX2_pull, Cond.code yX2_pull cX2_pull 4 (some .int), Cond.methodLink RX2 144 yX2_isSpeed, Cond.static yX2_isSpeed, Cond.code yX2_isSpeed cX2_isSpeed 1 (some .boolean), Cond.methodLink RX2 172 yX1_pullIn, Cond.methodLink RL 52 yL_borrowers, Cond.static yL_borrowers, Cond.codeWith yL_borrowers cL_borrowers 3 (some .int) [(0, 5, 6, 16)], Cond.methodLink RL 18 yX2_borrower, Cond.instanceMethod yX2_borrower, Cond.selects RX2 yX2_borrower yX2_borrower, Cond.code yX2_borrower cX2_borrower 3 (some .int), Cond.fieldLink RX2 64 "Windlane" "borrowerCount" "I"]
def wsL_law0_r6 : List Cond := [Cond.instantiable RX0 2, Cond.initialized RX0, Cond.methodLink RX2 69 yX0_init, Cond.instanceMethod yX0_init, Cond.code yX0_init cX0_init 2 none, Cond.methodLink RX0 1 objectInit, Cond.fieldLink RX0 7 "Windlane$Borrower" "skill" "I", Cond.methodLink RL 56 yL_kiteOf, Cond.static yL_kiteOf, Cond.code yL_kiteOf cL_kiteOf 4 (some .int), Cond.methodLink RL 60 yL_lends, Cond.static yL_lends, Cond.codeWith yL_lends cL_lends 4 (some .int) [(0, 7, 8, 16)], Cond.methodLink RL 25 yX2_lend, Cond.instanceMethod yX2_lend, Cond.selects RX2 yX2_lend yX2_lend, Cond.code yX2_lend cX2_lend 5 none, Cond.fieldLink RX2 89 "Windlane$Borrower" "held" "LWindlane$Kite;", Cond.methodLink RX2 72 yX2_borrowerAt, Cond.instanceMethod yX2_borrowerAt, Cond.selects RX2 yX2_borrowerAt yX2_borrowerAt, Cond.code yX2_borrowerAt cX2_borrowerAt 3 (some (.object "Windlane$Borrower")), Cond.methodLink RX2 76 yX1_isLendable, Cond.instanceMethod yX1_isLendable]
def wsL_law0_r7 : List Cond := [Cond.selects RX1 yX1_isLendable yX1_isLendable, Cond.code yX1_isLendable cX1_isLendable 1 (some .boolean), Cond.fieldLink RX1 30 "Windlane$Kite" "isTorn" "Z", Cond.fieldLink RX1 34 "Windlane$Kite" "wetHours" "I", Cond.methodLink RX2 80 yX0_canTake, Cond.instanceMethod yX0_canTake, Cond.selects RX0 yX0_canTake yX0_canTake, Cond.code yX0_canTake cX0_canTake 2 (some .boolean), Cond.fieldLink RX0 13 "Windlane$Borrower" "held" "LWindlane$Kite;", Cond.fieldLink RX0 17 "Windlane$Kite" "kind" "I", Cond.methodLink RL 64 yL_backs, Cond.static yL_backs, Cond.codeWith yL_backs cL_backs 3 (some .int) [(0, 5, 6, 16)], Cond.methodLink RL 29 yX2_giveBack, Cond.instanceMethod yX2_giveBack, Cond.selects RX2 yX2_giveBack yX2_giveBack, Cond.code yX2_giveBack cX2_giveBack 4 (some .int), Cond.methodLink RL 67 yL_isFlown, Cond.static yL_isFlown, Cond.code yL_isFlown cL_isFlown 8 (some .boolean), Cond.constant RL 35 (-99999), Cond.methodLink RL 95 yL_flies, Cond.static yL_flies, Cond.codeWith yL_flies cL_flies 5 (some .int) [(0, 7, 8, 16)]]
def wsL_law0_r8 : List Cond := [Cond.methodLink RL 32 yX2_fly, Cond.instanceMethod yX2_fly, Cond.selects RX2 yX2_fly yX2_fly, Cond.code yX2_fly cX2_fly 6 (some .int), Cond.fieldLink RX2 136 "Windlane$Kite" "length" "I", Cond.methodLink RX2 115 yX1_isReadyIn, Cond.instanceMethod yX1_isReadyIn, Cond.selects RX1 yX1_isReadyIn yX1_isReadyIn, Cond.code yX1_isReadyIn cX1_isReadyIn 2 (some .boolean), Cond.methodLink RX1 37 yX1_isFlying, Cond.methodLink RX1 41 yX1_holdsIn, Cond.instanceMethod yX1_holdsIn, Cond.selects RX1 yX1_holdsIn yX1_holdsIn, Cond.code yX1_holdsIn cX1_holdsIn 2 (some .boolean), Cond.methodLink RX2 123 yX1_endAt, Cond.methodLink RX2 127 yX2_wouldCross, Cond.instanceMethod yX2_wouldCross, Cond.selects RX2 yX2_wouldCross yX2_wouldCross, Cond.code yX2_wouldCross cX2_wouldCross 6 (some .boolean), Cond.methodLink RL 75 yL_lands, Cond.static yL_lands, Cond.codeWith yL_lands cL_lands 3 (some .int) [(0, 5, 6, 16)], Cond.methodLink RL 36 yX2_land, Cond.instanceMethod yX2_land]
def wsL_law0_r9 : List Cond := [Cond.selects RX2 yX2_land yX2_land, Cond.code yX2_land cX2_land 4 (some .int), Cond.methodLink RX2 141 yX2_clearLane, Cond.instanceMethod yX2_clearLane, Cond.selects RX2 yX2_clearLane yX2_clearLane, Cond.code yX2_clearLane cX2_clearLane 3 none, Cond.methodLink RL 78 yL_patches, Cond.static yL_patches, Cond.codeWith yL_patches cL_patches 3 (some .int) [(0, 5, 6, 16)], Cond.methodLink RL 22 yX2_patch, Cond.instanceMethod yX2_patch, Cond.selects RX2 yX2_patch yX2_patch, Cond.code yX2_patch cX2_patch 3 (some .int), Cond.methodLink RL 81 yX2_rain, Cond.instanceMethod yX2_rain, Cond.selects RX2 yX2_rain yX2_rain, Cond.code yX2_rain cX2_rain 3 (some .boolean), Cond.fieldLink RX2 158 "Windlane" "isRaining" "Z", Cond.methodLink RL 85 yL_isPassed, Cond.static yL_isPassed, Cond.code yL_isPassed cL_isPassed 9 (some .boolean), Cond.methodLink RL 98 yX2_pass, Cond.instanceMethod yX2_pass, Cond.selects RX2 yX2_pass yX2_pass]
def wsL_law0_r10 : List Cond := [Cond.code yX2_pass cX2_pass 3 (some .int), Cond.methodLink RX2 163 yX2_spendHour, Cond.instanceMethod yX2_spendHour, Cond.selects RX2 yX2_spendHour yX2_spendHour, Cond.code yX2_spendHour cX2_spendHour 5 none, Cond.methodLink RX2 209 yX1_spendHour, Cond.instanceMethod yX1_spendHour, Cond.selects RX1 yX1_spendHour yX1_spendHour, Cond.code yX1_spendHour cX1_spendHour 2 none, Cond.methodLink RX2 166 yX2_countWet, Cond.instanceMethod yX2_countWet, Cond.selects RX2 yX2_countWet yX2_countWet, Cond.code yX2_countWet cX2_countWet 6 (some .int), Cond.methodLink RL 89 yL_isBlown, Cond.static yL_isBlown, Cond.code yL_isBlown cL_isBlown 8 (some .boolean), Cond.methodLink RL 101 yL_flying, Cond.static yL_flying, Cond.code yL_flying cL_flying 4 (some .int), Cond.methodLink RL 105 yL_torn, Cond.static yL_torn, Cond.code yL_torn cL_torn 4 (some .int), Cond.methodLink RL 108 yX2_wind, Cond.instanceMethod yX2_wind]
def wsL_law0_r11 : List Cond := [Cond.selects RX2 yX2_wind yX2_wind, Cond.code yX2_wind cX2_wind 4 (some .int), Cond.methodLink RX2 152 yX2_callDownUnheld, Cond.instanceMethod yX2_callDownUnheld, Cond.selects RX2 yX2_callDownUnheld yX2_callDownUnheld, Cond.code yX2_callDownUnheld cX2_callDownUnheld 3 none, Cond.methodLink RX2 187 yX1_holdsIn, Cond.methodLink RX2 203 yX2_callDown, Cond.instanceMethod yX2_callDown, Cond.selects RX2 yX2_callDown yX2_callDown, Cond.code yX2_callDown cX2_callDown 2 none, Cond.methodLink RX2 155 yX2_callDownCrossing, Cond.instanceMethod yX2_callDownCrossing, Cond.selects RX2 yX2_callDownCrossing yX2_callDownCrossing, Cond.code yX2_callDownCrossing cX2_callDownCrossing 3 none, Cond.methodLink RX2 206 yX2_weakerLaneOfFirstCrossing, Cond.instanceMethod yX2_weakerLaneOfFirstCrossing, Cond.selects RX2 yX2_weakerLaneOfFirstCrossing yX2_weakerLaneOfFirstCrossing, Cond.code yX2_weakerLaneOfFirstCrossing cX2_weakerLaneOfFirstCrossing 5 (some .int), Cond.methodLink RL 128 yL_isWhole, Cond.static yL_isWhole, Cond.code yL_isWhole cL_isWhole 10 (some .boolean), Cond.constant RL 111 (-100000), Cond.methodLink RL 112 yX2_pullAnew]
def wsL_law0_r12 : List Cond := [Cond.instanceMethod yX2_pullAnew, Cond.selects RX2 yX2_pullAnew yX2_pullAnew, Cond.code yX2_pullAnew cX2_pullAnew 4 (some .int), Cond.methodLink RX2 176 yX1_pullByStepsTo, Cond.instanceMethod yX1_pullByStepsTo, Cond.selects RX1 yX1_pullByStepsTo yX1_pullByStepsTo, Cond.code yX1_pullByStepsTo cX1_pullByStepsTo 4 (some .int), Cond.methodLink RX1 56 yX1_liftAddedBy, Cond.instanceMethod yX1_liftAddedBy, Cond.selects RX1 yX1_liftAddedBy yX1_liftAddedBy, Cond.code yX1_liftAddedBy cX1_liftAddedBy 2 (some .int), Cond.methodLink RL 115 yX2_window, Cond.instanceMethod yX2_window, Cond.selects RX2 yX2_window yX2_window, Cond.code yX2_window cX2_window 6 (some .int)]
def wsL_law0 : List Cond := (wsL_law0_r1 ++ (wsL_law0_r2 ++ (wsL_law0_r3 ++ (wsL_law0_r4 ++ (wsL_law0_r5 ++ (wsL_law0_r6 ++ (wsL_law0_r7 ++ (wsL_law0_r8 ++ (wsL_law0_r9 ++ (wsL_law0_r10 ++ (wsL_law0_r11 ++ wsL_law0_r12))))))))))) ++ wsX20 ++ wsX10 ++ wsX00 ++ ([] : List Cond)
def wsL_law : List Cond := wsL_law0 ++ (vx_atS RX2 109 "java/lang/IndexOutOfBoundsException" ["java/lang/RuntimeException", "java/lang/Exception"]).filter goodWord ++ (vx_atS RX2 32 "java/lang/IllegalArgumentException" ["java/lang/RuntimeException", "java/lang/Exception"]).filter goodWord ++ (vx_atS RX2 43 "java/lang/IllegalStateException" ["java/lang/RuntimeException", "java/lang/Exception"]).filter goodWord
theorem wsL_at {big : List Cond} (ws : List Cond) (ps : List Nat) (hp : ws = ps.filterMap (fun i => big[i]?)) : ∀ w ∈ ws, w ∈ big := by
  intro w hw
  rw [hp] at hw
  obtain ⟨i, -, hi⟩ := List.mem_filterMap.mp hw
  exact List.mem_of_getElem? hi
theorem wsL_cons {big : List Cond} {w : Cond} {ws : List Cond} (i : Nat) (h : big[i]? = some w) (hs : ∀ v ∈ ws, v ∈ big) : ∀ v ∈ w :: ws, v ∈ big := fun v hv => (List.mem_cons.mp hv).elim (fun e => e ▸ List.mem_of_getElem? h) (hs v)
set_option maxRecDepth 20000 in
theorem wsL_i1 : ∀ w ∈ wsL_law0_r1, w ∈ lw_tbl := wsL_at _ [21, 22, 12, 451, 23, 24, 25, 26, 27, 28, 29, 33, 31, 35, 37, 139, 140, 141, 142, 41, 61, 62, 63, 64] (by decide +kernel)
set_option maxRecDepth 20000 in
theorem wsL_i2 : ∀ w ∈ wsL_law0_r2, w ∈ lw_tbl := (wsL_cons 71 rfl (wsL_cons 16 rfl (wsL_cons 198 rfl (wsL_cons 65 rfl (wsL_cons 66 rfl (wsL_cons 67 rfl (wsL_cons 68 rfl (wsL_cons 69 rfl (wsL_cons 70 rfl (wsL_cons 143 rfl (wsL_cons 144 rfl (wsL_cons 11 rfl (wsL_cons 145 rfl (wsL_cons 146 rfl (wsL_cons 147 rfl (wsL_cons 148 rfl (wsL_cons 149 rfl (wsL_cons 150 rfl (wsL_cons 151 rfl (wsL_cons 152 rfl (wsL_cons 153 rfl (wsL_cons 154 rfl (wsL_cons 155 rfl (wsL_cons 156 rfl (fun _ h => absurd h List.not_mem_nil)))))))))))))))))))))))))
set_option maxRecDepth 20000 in
theorem wsL_i3 : ∀ w ∈ wsL_law0_r3, w ∈ lw_tbl := wsL_at _ [157, 158, 159, 160, 17, 176, 18, 34, 192, 19, 193, 194, 195, 196, 197, 199, 201, 202, 208, 210, 233, 234, 235, 236] (by decide +kernel)
set_option maxRecDepth 20000 in
theorem wsL_i4 : ∀ w ∈ wsL_law0_r4, w ∈ lw_tbl := wsL_at _ [203, 204, 207, 209, 211, 38, 39, 237, 239, 1, 240, 242, 243, 244, 245, 246, 247, 248, 249, 213, 250, 251, 252, 253] (by decide +kernel)
set_option maxRecDepth 20000 in
theorem wsL_i5 : ∀ w ∈ wsL_law0_r5, w ∈ lw_tbl := wsL_at _ [254, 255, 256, 257, 258, 259, 260, 261, 263, 264, 265, 266, 267, 268, 269, 271, 272, 273, 274, 275, 276, 277, 278, 36] (by decide +kernel)
set_option maxRecDepth 20000 in
theorem wsL_i6 : ∀ w ∈ wsL_law0_r6, w ∈ lw_tbl := wsL_at _ [281, 20, 282, 283, 284, 285, 286, 294, 295, 296, 297, 298, 299, 300, 301, 302, 303, 288, 304, 306, 2, 307, 309, 310] (by decide +kernel)
set_option maxRecDepth 20000 in
theorem wsL_i7 : ∀ w ∈ wsL_law0_r7, w ∈ lw_tbl := wsL_at _ [311, 312, 205, 206, 313, 314, 315, 316, 287, 200, 318, 319, 320, 321, 322, 323, 324, 326, 327, 328, 354, 329, 330, 331] (by decide +kernel)
set_option maxRecDepth 20000 in
theorem wsL_i8 : ∀ w ∈ wsL_law0_r8, w ∈ lw_tbl := wsL_at _ [332, 333, 334, 335, 212, 337, 338, 339, 340, 341, 342, 343, 344, 345, 348, 349, 351, 3, 352, 355, 356, 357, 358, 359] (by decide +kernel)
set_option maxRecDepth 20000 in
theorem wsL_i9 : ∀ w ∈ wsL_law0_r9, w ∈ lw_tbl := wsL_at _ [360, 361, 363, 365, 4, 366, 367, 368, 369, 370, 371, 372, 373, 376, 377, 378, 379, 40, 380, 381, 382, 383, 384, 385] (by decide +kernel)
set_option maxRecDepth 20000 in
theorem wsL_i10 : ∀ w ∈ wsL_law0_r10, w ∈ lw_tbl := wsL_at _ [386, 388, 390, 5, 391, 392, 393, 394, 395, 396, 398, 6, 399, 400, 401, 402, 403, 404, 405, 406, 407, 408, 409, 410] (by decide +kernel)
set_option maxRecDepth 20000 in
theorem wsL_i11 : ∀ w ∈ wsL_law0_r11, w ∈ lw_tbl := (wsL_cons 411 rfl (wsL_cons 412 rfl (wsL_cons 414 rfl (wsL_cons 416 rfl (wsL_cons 7 rfl (wsL_cons 417 rfl (wsL_cons 418 rfl (wsL_cons 419 rfl (wsL_cons 421 rfl (wsL_cons 8 rfl (wsL_cons 422 rfl (wsL_cons 423 rfl (wsL_cons 425 rfl (wsL_cons 9 rfl (wsL_cons 426 rfl (wsL_cons 427 rfl (wsL_cons 429 rfl (wsL_cons 10 rfl (wsL_cons 430 rfl (wsL_cons 431 rfl (wsL_cons 432 rfl (wsL_cons 433 rfl (wsL_cons 434 rfl (wsL_cons 435 rfl (fun _ h => absurd h List.not_mem_nil)))))))))))))))))))))))))
set_option maxRecDepth 20000 in
theorem wsL_i12 : ∀ w ∈ wsL_law0_r12, w ∈ lw_tbl := wsL_at _ [436, 437, 438, 439, 440, 441, 442, 443, 444, 445, 446, 447, 448, 449, 450] (by decide +kernel)
set_option maxRecDepth 20000 in
theorem wsL_sX2 : ∀ w ∈ wsX20, w ∈ lw_tbl := by decide +kernel
set_option maxRecDepth 20000 in
theorem wsL_sX1 : ∀ w ∈ wsX10, w ∈ lw_tbl := by decide +kernel
set_option maxRecDepth 20000 in
theorem wsL_sX0 : ∀ w ∈ wsX00, w ∈ lw_tbl := by decide +kernel
theorem wsL_iall : ∀ w ∈ ((wsL_law0_r1 ++ (wsL_law0_r2 ++ (wsL_law0_r3 ++ (wsL_law0_r4 ++ (wsL_law0_r5 ++ (wsL_law0_r6 ++ (wsL_law0_r7 ++ (wsL_law0_r8 ++ (wsL_law0_r9 ++ (wsL_law0_r10 ++ (wsL_law0_r11 ++ wsL_law0_r12)))))))))))), w ∈ lw_tbl := fun w h => (List.mem_append.mp h).elim (wsL_i1 w) ((fun w h => (List.mem_append.mp h).elim (wsL_i2 w) ((fun w h => (List.mem_append.mp h).elim (wsL_i3 w) ((fun w h => (List.mem_append.mp h).elim (wsL_i4 w) ((fun w h => (List.mem_append.mp h).elim (wsL_i5 w) ((fun w h => (List.mem_append.mp h).elim (wsL_i6 w) ((fun w h => (List.mem_append.mp h).elim (wsL_i7 w) ((fun w h => (List.mem_append.mp h).elim (wsL_i8 w) ((fun w h => (List.mem_append.mp h).elim (wsL_i9 w) ((fun w h => (List.mem_append.mp h).elim (wsL_i10 w) ((fun w h => (List.mem_append.mp h).elim (wsL_i11 w) ((fun w h => wsL_i12 w h) w)) w)) w)) w)) w)) w)) w)) w)) w)) w)) w)
theorem wsL_law_in0 : ∀ w ∈ wsL_law0, w ∈ lw_tbl := fun w h => (List.mem_append.mp h).elim (fun h => (List.mem_append.mp h).elim (fun h => (List.mem_append.mp h).elim (fun h => (List.mem_append.mp h).elim (wsL_iall w) (wsL_sX2 w)) (wsL_sX1 w)) (wsL_sX0 w)) (fun h => absurd h List.not_mem_nil)
theorem wsL_law_x0 : ∀ w ∈ (vx_atS RX2 109 "java/lang/IndexOutOfBoundsException" ["java/lang/RuntimeException", "java/lang/Exception"]).filter goodWord, w ∈ lw_tbl := by decide +kernel
theorem wsL_law_x1 : ∀ w ∈ (vx_atS RX2 32 "java/lang/IllegalArgumentException" ["java/lang/RuntimeException", "java/lang/Exception"]).filter goodWord, w ∈ lw_tbl := by decide +kernel
theorem wsL_law_x2 : ∀ w ∈ (vx_atS RX2 43 "java/lang/IllegalStateException" ["java/lang/RuntimeException", "java/lang/Exception"]).filter goodWord, w ∈ lw_tbl := by decide +kernel
theorem wsL_law_in : ∀ w ∈ wsL_law, w ∈ lw_tbl := fun w h => (List.mem_append.mp h).elim (fun h => (List.mem_append.mp h).elim (fun h => (List.mem_append.mp h).elim (fun h => wsL_law_in0 w h) (fun h => wsL_law_x0 w h)) (fun h => wsL_law_x1 w h)) (fun h => wsL_law_x2 w h)
theorem inlX0 : ∀ w ∈ wsX00, w ∈ wsL_law := fun _ h => List.mem_append_left _ (List.mem_append_left _ (List.mem_append_left _ (List.mem_append_left _ (List.mem_append_right _ h))))
theorem inX0 : ∀ w ∈ wsX00, w ∈ lw_tbl := fun w h => wsL_law_in w (inlX0 w h)
theorem inlX1 : ∀ w ∈ wsX10, w ∈ wsL_law := fun _ h => List.mem_append_left _ (List.mem_append_left _ (List.mem_append_left _ (List.mem_append_left _ (List.mem_append_left _ (List.mem_append_right _ h)))))
theorem inX1 : ∀ w ∈ wsX10, w ∈ lw_tbl := fun w h => wsL_law_in w (inlX1 w h)
theorem inlX2 : ∀ w ∈ wsX20, w ∈ wsL_law := fun _ h => List.mem_append_left _ (List.mem_append_left _ (List.mem_append_left _ (List.mem_append_left _ (List.mem_append_left _ (List.mem_append_left _ (List.mem_append_right _ h))))))
theorem inX2 : ∀ w ∈ wsX20, w ∈ lw_tbl := fun w h => wsL_law_in w (inlX2 w h)
theorem inX3 : ∀ w ∈ wsX30, w ∈ lw_tbl := by decide +kernel
theorem inJ0 : ∀ w ∈ wsJ00, w ∈ lw_tbl := by decide +kernel
end
section
theorem dX0_init_0 : decode cX0_init 0 = .ok (.aload_n 0, 1) := by decide +kernel
theorem dX0_init_1 : decode cX0_init 1 = .ok (.invokespecial 1, 3) := by decide +kernel
theorem dX0_init_4 : decode cX0_init 4 = .ok (.aload_n 0, 1) := by decide +kernel
theorem dX0_init_5 : decode cX0_init 5 = .ok (.iload_n 1, 1) := by decide +kernel
theorem dX0_init_6 : decode cX0_init 6 = .ok (.putfield 7, 3) := by decide +kernel
theorem dX0_init_9 : decode cX0_init 9 = .ok (.return_, 1) := by decide +kernel
theorem dX0_canTake_0 : decode cX0_canTake 0 = .ok (.aload_n 0, 1) := by decide +kernel
theorem dX0_canTake_1 : decode cX0_canTake 1 = .ok (.getfield 13, 3) := by decide +kernel
theorem dX0_canTake_4 : decode cX0_canTake 4 = .ok (.ifnonnull 18, 3) := by decide +kernel
theorem dX0_canTake_7 : decode cX0_canTake 7 = .ok (.aload_n 0, 1) := by decide +kernel
theorem dX0_canTake_8 : decode cX0_canTake 8 = .ok (.getfield 7, 3) := by decide +kernel
theorem dX0_canTake_11 : decode cX0_canTake 11 = .ok (.aload_n 1, 1) := by decide +kernel
theorem dX0_canTake_12 : decode cX0_canTake 12 = .ok (.getfield 17, 3) := by decide +kernel
theorem dX0_canTake_15 : decode cX0_canTake 15 = .ok (.if_icmp .le 7, 3) := by decide +kernel
theorem dX0_canTake_18 : decode cX0_canTake 18 = .ok (.iconst 1, 1) := by decide +kernel
theorem dX0_canTake_19 : decode cX0_canTake 19 = .ok (.goto 4, 3) := by decide +kernel
theorem dX0_canTake_22 : decode cX0_canTake 22 = .ok (.iconst 0, 1) := by decide +kernel
theorem dX0_canTake_23 : decode cX0_canTake 23 = .ok (.ireturn, 1) := by decide +kernel
theorem dX1_init_0 : decode cX1_init 0 = .ok (.aload_n 0, 1) := by decide +kernel
theorem dX1_init_1 : decode cX1_init 1 = .ok (.invokespecial 3, 3) := by decide +kernel
theorem dX1_init_4 : decode cX1_init 4 = .ok (.aload_n 0, 1) := by decide +kernel
theorem dX1_init_5 : decode cX1_init 5 = .ok (.iload_n 1, 1) := by decide +kernel
theorem dX1_init_6 : decode cX1_init 6 = .ok (.putfield 9, 3) := by decide +kernel
theorem dX1_init_9 : decode cX1_init 9 = .ok (.aload_n 0, 1) := by decide +kernel
theorem dX1_init_10 : decode cX1_init 10 = .ok (.iload_n 2, 1) := by decide +kernel
theorem dX1_init_11 : decode cX1_init 11 = .ok (.putfield 15, 3) := by decide +kernel
theorem dX1_init_14 : decode cX1_init 14 = .ok (.aload_n 0, 1) := by decide +kernel
theorem dX1_init_15 : decode cX1_init 15 = .ok (.iload_n 3, 1) := by decide +kernel
theorem dX1_init_16 : decode cX1_init 16 = .ok (.putfield 18, 3) := by decide +kernel
theorem dX1_init_19 : decode cX1_init 19 = .ok (.aload_n 0, 1) := by decide +kernel
theorem dX1_init_20 : decode cX1_init 20 = .ok (.iload 4, 2) := by decide +kernel
theorem dX1_init_22 : decode cX1_init 22 = .ok (.putfield 21, 3) := by decide +kernel
theorem dX1_init_25 : decode cX1_init 25 = .ok (.aload_n 0, 1) := by decide +kernel
theorem dX1_init_26 : decode cX1_init 26 = .ok (.iconst (-1), 1) := by decide +kernel
theorem dX1_init_27 : decode cX1_init 27 = .ok (.putfield 24, 3) := by decide +kernel
theorem dX1_init_30 : decode cX1_init 30 = .ok (.aload_n 0, 1) := by decide +kernel
theorem dX1_init_31 : decode cX1_init 31 = .ok (.iconst (-1), 1) := by decide +kernel
theorem dX1_init_32 : decode cX1_init 32 = .ok (.putfield 27, 3) := by decide +kernel
theorem dX1_init_35 : decode cX1_init 35 = .ok (.return_, 1) := by decide +kernel
theorem dX1_isFlying_0 : decode cX1_isFlying 0 = .ok (.aload_n 0, 1) := by decide +kernel
theorem dX1_isFlying_1 : decode cX1_isFlying 1 = .ok (.getfield 27, 3) := by decide +kernel
theorem dX1_isFlying_4 : decode cX1_isFlying 4 = .ok (.iconst (-1), 1) := by decide +kernel
theorem dX1_isFlying_5 : decode cX1_isFlying 5 = .ok (.if_icmp .eq 7, 3) := by decide +kernel
theorem dX1_isFlying_8 : decode cX1_isFlying 8 = .ok (.iconst 1, 1) := by decide +kernel
theorem dX1_isFlying_9 : decode cX1_isFlying 9 = .ok (.goto 4, 3) := by decide +kernel
theorem dX1_isFlying_12 : decode cX1_isFlying 12 = .ok (.iconst 0, 1) := by decide +kernel
theorem dX1_isFlying_13 : decode cX1_isFlying 13 = .ok (.ireturn, 1) := by decide +kernel
theorem dX1_isLendable_0 : decode cX1_isLendable 0 = .ok (.aload_n 0, 1) := by decide +kernel
theorem dX1_isLendable_1 : decode cX1_isLendable 1 = .ok (.getfield 24, 3) := by decide +kernel
theorem dX1_isLendable_4 : decode cX1_isLendable 4 = .ok (.iconst (-1), 1) := by decide +kernel
theorem dX1_isLendable_5 : decode cX1_isLendable 5 = .ok (.if_icmp .ne 21, 3) := by decide +kernel
theorem dX1_isLendable_8 : decode cX1_isLendable 8 = .ok (.aload_n 0, 1) := by decide +kernel
theorem dX1_isLendable_9 : decode cX1_isLendable 9 = .ok (.getfield 30, 3) := by decide +kernel
theorem dX1_isLendable_12 : decode cX1_isLendable 12 = .ok (.ifCond .ne 14, 3) := by decide +kernel
theorem dX1_isLendable_15 : decode cX1_isLendable 15 = .ok (.aload_n 0, 1) := by decide +kernel
theorem dX1_isLendable_16 : decode cX1_isLendable 16 = .ok (.getfield 34, 3) := by decide +kernel
theorem dX1_isLendable_19 : decode cX1_isLendable 19 = .ok (.ifCond .ne 7, 3) := by decide +kernel
theorem dX1_isLendable_22 : decode cX1_isLendable 22 = .ok (.iconst 1, 1) := by decide +kernel
theorem dX1_isLendable_23 : decode cX1_isLendable 23 = .ok (.goto 4, 3) := by decide +kernel
theorem dX1_isLendable_26 : decode cX1_isLendable 26 = .ok (.iconst 0, 1) := by decide +kernel
theorem dX1_isLendable_27 : decode cX1_isLendable 27 = .ok (.ireturn, 1) := by decide +kernel
set_option maxRecDepth 20000 in
theorem ggX1_isReadyIn_X1_isFlying : GoodIn wsX1_isReadyIn wsX1_isFlying := goodIn_r _ [7, 8, 27, 28, 29, 30, 31, 32, 33, 34, 35] (by decide +kernel) (by decide +kernel)
set_option maxRecDepth 20000 in
theorem gX1_isReadyIn_X1_isFlying : GoodIn wsX1_isReadyIn (wsV RX1 37 RX1 yX1_isFlying wsX1_isFlying) := goodIn_app (goodIn_of _ (by decide +kernel)) ggX1_isReadyIn_X1_isFlying
set_option maxRecDepth 20000 in
theorem ggX1_isReadyIn_X1_holdsIn : GoodIn wsX1_isReadyIn wsX1_holdsIn := goodIn_r _ [12, 13, 14, 15, 6, 16, 17, 18, 19, 20, 21, 22, 23, 24, 25, 26, 27, 28, 29, 30, 31, 32, 33, 34, 35] (by decide +kernel) (by decide +kernel)
set_option maxRecDepth 20000 in
theorem gX1_isReadyIn_X1_holdsIn : GoodIn wsX1_isReadyIn (wsV RX1 41 RX1 yX1_holdsIn wsX1_holdsIn) := goodIn_app (goodIn_of _ (by decide +kernel)) ggX1_isReadyIn_X1_holdsIn
theorem dX1_isReadyIn_0 : decode cX1_isReadyIn 0 = .ok (.aload_n 0, 1) := by decide +kernel
theorem dX1_isReadyIn_1 : decode cX1_isReadyIn 1 = .ok (.getfield 24, 3) := by decide +kernel
theorem dX1_isReadyIn_4 : decode cX1_isReadyIn 4 = .ok (.iconst (-1), 1) := by decide +kernel
theorem dX1_isReadyIn_5 : decode cX1_isReadyIn 5 = .ok (.if_icmp .eq 29, 3) := by decide +kernel
theorem dX1_isReadyIn_8 : decode cX1_isReadyIn 8 = .ok (.aload_n 0, 1) := by decide +kernel
theorem dX1_isReadyIn_9 : decode cX1_isReadyIn 9 = .ok (.getfield 30, 3) := by decide +kernel
theorem dX1_isReadyIn_12 : decode cX1_isReadyIn 12 = .ok (.ifCond .ne 22, 3) := by decide +kernel
theorem dX1_isReadyIn_15 : decode cX1_isReadyIn 15 = .ok (.aload_n 0, 1) := by decide +kernel
theorem dX1_isReadyIn_16 : decode cX1_isReadyIn 16 = .ok (.invokevirtual 37, 3) := by decide +kernel
theorem dX1_isReadyIn_19 : decode cX1_isReadyIn 19 = .ok (.ifCond .ne 15, 3) := by decide +kernel
theorem dX1_isReadyIn_22 : decode cX1_isReadyIn 22 = .ok (.aload_n 0, 1) := by decide +kernel
theorem dX1_isReadyIn_23 : decode cX1_isReadyIn 23 = .ok (.iload_n 1, 1) := by decide +kernel
theorem dX1_isReadyIn_24 : decode cX1_isReadyIn 24 = .ok (.invokevirtual 41, 3) := by decide +kernel
theorem dX1_isReadyIn_27 : decode cX1_isReadyIn 27 = .ok (.ifCond .eq 7, 3) := by decide +kernel
theorem dX1_isReadyIn_30 : decode cX1_isReadyIn 30 = .ok (.iconst 1, 1) := by decide +kernel
theorem dX1_isReadyIn_31 : decode cX1_isReadyIn 31 = .ok (.goto 4, 3) := by decide +kernel
theorem dX1_isReadyIn_34 : decode cX1_isReadyIn 34 = .ok (.iconst 0, 1) := by decide +kernel
theorem dX1_isReadyIn_35 : decode cX1_isReadyIn 35 = .ok (.ireturn, 1) := by decide +kernel
set_option maxRecDepth 20000 in
theorem ggX1_holdsIn_X1_pullIn : GoodIn wsX1_holdsIn wsX1_pullIn := goodIn_r _ [5, 6, 7, 8, 9, 4, 10, 11, 12, 16, 17, 18, 19, 20, 21, 22, 23, 24] (by decide +kernel) (by decide +kernel)
set_option maxRecDepth 20000 in
theorem gX1_holdsIn_X1_pullIn : GoodIn wsX1_holdsIn (wsV RX1 45 RX1 yX1_pullIn wsX1_pullIn) := goodIn_app (goodIn_of _ (by decide +kernel)) ggX1_holdsIn_X1_pullIn
set_option maxRecDepth 20000 in
theorem ggX1_holdsIn_X2_isWithin : GoodIn wsX1_holdsIn wsX2_isWithin := goodIn_r _ [15] (by decide +kernel) (by decide +kernel)
set_option maxRecDepth 20000 in
theorem gX1_holdsIn_X2_isWithin_n49 : GoodIn wsX1_holdsIn (wsX2_isWithin) := ggX1_holdsIn_X2_isWithin
theorem dX1_holdsIn_0 : decode cX1_holdsIn 0 = .ok (.aload_n 0, 1) := by decide +kernel
theorem dX1_holdsIn_1 : decode cX1_holdsIn 1 = .ok (.iload_n 1, 1) := by decide +kernel
theorem dX1_holdsIn_2 : decode cX1_holdsIn 2 = .ok (.invokevirtual 45, 3) := by decide +kernel
theorem dX1_holdsIn_5 : decode cX1_holdsIn 5 = .ok (.bipush 100, 2) := by decide +kernel
theorem dX1_holdsIn_7 : decode cX1_holdsIn 7 = .ok (.sipush 6000, 3) := by decide +kernel
theorem dX1_holdsIn_10 : decode cX1_holdsIn 10 = .ok (.invokestatic 49, 3) := by decide +kernel
theorem dX1_holdsIn_13 : decode cX1_holdsIn 13 = .ok (.ireturn, 1) := by decide +kernel
set_option maxRecDepth 20000 in
theorem ggX1_pullIn_X1_liftIn : GoodIn wsX1_pullIn wsX1_liftIn := goodIn_r _ [6, 7, 8, 9, 10, 11, 12, 13, 14, 15, 16, 17] (by decide +kernel) (by decide +kernel)
set_option maxRecDepth 20000 in
theorem gX1_pullIn_X1_liftIn : GoodIn wsX1_pullIn (wsV RX1 53 RX1 yX1_liftIn wsX1_liftIn) := goodIn_app (goodIn_of _ (by decide +kernel)) ggX1_pullIn_X1_liftIn
theorem dX1_pullIn_0 : decode cX1_pullIn 0 = .ok (.aload_n 0, 1) := by decide +kernel
theorem dX1_pullIn_1 : decode cX1_pullIn 1 = .ok (.iload_n 1, 1) := by decide +kernel
theorem dX1_pullIn_2 : decode cX1_pullIn 2 = .ok (.invokevirtual 53, 3) := by decide +kernel
theorem dX1_pullIn_5 : decode cX1_pullIn 5 = .ok (.bipush 100, 2) := by decide +kernel
theorem dX1_pullIn_7 : decode cX1_pullIn 7 = .ok (.aload_n 0, 1) := by decide +kernel
theorem dX1_pullIn_8 : decode cX1_pullIn 8 = .ok (.getfield 21, 3) := by decide +kernel
theorem dX1_pullIn_11 : decode cX1_pullIn 11 = .ok (.imul, 1) := by decide +kernel
theorem dX1_pullIn_12 : decode cX1_pullIn 12 = .ok (.isub, 1) := by decide +kernel
theorem dX1_pullIn_13 : decode cX1_pullIn 13 = .ok (.ireturn, 1) := by decide +kernel
theorem dX1_liftIn_0 : decode cX1_liftIn 0 = .ok (.aload_n 0, 1) := by decide +kernel
theorem dX1_liftIn_1 : decode cX1_liftIn 1 = .ok (.getfield 15, 3) := by decide +kernel
theorem dX1_liftIn_4 : decode cX1_liftIn 4 = .ok (.lookupswitch 49 #[(0, 28), (1, 39)], 28) := by decide +kernel
theorem dX1_liftIn_32 : decode cX1_liftIn 32 = .ok (.iconst 5, 1) := by decide +kernel
theorem dX1_liftIn_33 : decode cX1_liftIn 33 = .ok (.aload_n 0, 1) := by decide +kernel
theorem dX1_liftIn_34 : decode cX1_liftIn 34 = .ok (.getfield 18, 3) := by decide +kernel
theorem dX1_liftIn_37 : decode cX1_liftIn 37 = .ok (.imul, 1) := by decide +kernel
theorem dX1_liftIn_38 : decode cX1_liftIn 38 = .ok (.iload_n 1, 1) := by decide +kernel
theorem dX1_liftIn_39 : decode cX1_liftIn 39 = .ok (.imul, 1) := by decide +kernel
theorem dX1_liftIn_40 : decode cX1_liftIn 40 = .ok (.iload_n 1, 1) := by decide +kernel
theorem dX1_liftIn_41 : decode cX1_liftIn 41 = .ok (.imul, 1) := by decide +kernel
theorem dX1_liftIn_42 : decode cX1_liftIn 42 = .ok (.ireturn, 1) := by decide +kernel
theorem dX1_liftIn_43 : decode cX1_liftIn 43 = .ok (.bipush 60, 2) := by decide +kernel
theorem dX1_liftIn_45 : decode cX1_liftIn 45 = .ok (.aload_n 0, 1) := by decide +kernel
theorem dX1_liftIn_46 : decode cX1_liftIn 46 = .ok (.getfield 18, 3) := by decide +kernel
theorem dX1_liftIn_49 : decode cX1_liftIn 49 = .ok (.imul, 1) := by decide +kernel
theorem dX1_liftIn_50 : decode cX1_liftIn 50 = .ok (.iload_n 1, 1) := by decide +kernel
theorem dX1_liftIn_51 : decode cX1_liftIn 51 = .ok (.imul, 1) := by decide +kernel
theorem dX1_liftIn_52 : decode cX1_liftIn 52 = .ok (.ireturn, 1) := by decide +kernel
theorem dX1_liftIn_53 : decode cX1_liftIn 53 = .ok (.bipush 80, 2) := by decide +kernel
theorem dX1_liftIn_55 : decode cX1_liftIn 55 = .ok (.aload_n 0, 1) := by decide +kernel
theorem dX1_liftIn_56 : decode cX1_liftIn 56 = .ok (.getfield 18, 3) := by decide +kernel
theorem dX1_liftIn_59 : decode cX1_liftIn 59 = .ok (.imul, 1) := by decide +kernel
theorem dX1_liftIn_60 : decode cX1_liftIn 60 = .ok (.iload_n 1, 1) := by decide +kernel
theorem dX1_liftIn_61 : decode cX1_liftIn 61 = .ok (.bipush 10, 2) := by decide +kernel
theorem dX1_liftIn_63 : decode cX1_liftIn 63 = .ok (.if_icmp .le 8, 3) := by decide +kernel
theorem dX1_liftIn_66 : decode cX1_liftIn 66 = .ok (.bipush 10, 2) := by decide +kernel
theorem dX1_liftIn_68 : decode cX1_liftIn 68 = .ok (.goto 4, 3) := by decide +kernel
theorem dX1_liftIn_71 : decode cX1_liftIn 71 = .ok (.iload_n 1, 1) := by decide +kernel
theorem dX1_liftIn_72 : decode cX1_liftIn 72 = .ok (.imul, 1) := by decide +kernel
theorem dX1_liftIn_73 : decode cX1_liftIn 73 = .ok (.ireturn, 1) := by decide +kernel
set_option maxRecDepth 20000 in
theorem ggX1_pullByStepsTo_X1_liftAddedBy : GoodIn wsX1_pullByStepsTo wsX1_liftAddedBy := goodIn_r _ [6, 7, 8, 9, 10, 11, 12, 13, 14, 15, 16, 17] (by decide +kernel) (by decide +kernel)
set_option maxRecDepth 20000 in
theorem gX1_pullByStepsTo_X1_liftAddedBy : GoodIn wsX1_pullByStepsTo (wsV RX1 56 RX1 yX1_liftAddedBy wsX1_liftAddedBy) := goodIn_app (goodIn_of _ (by decide +kernel)) ggX1_pullByStepsTo_X1_liftAddedBy
theorem dX1_pullByStepsTo_0 : decode cX1_pullByStepsTo 0 = .ok (.bipush (-100), 2) := by decide +kernel
theorem dX1_pullByStepsTo_2 : decode cX1_pullByStepsTo 2 = .ok (.aload_n 0, 1) := by decide +kernel
theorem dX1_pullByStepsTo_3 : decode cX1_pullByStepsTo 3 = .ok (.getfield 21, 3) := by decide +kernel
theorem dX1_pullByStepsTo_6 : decode cX1_pullByStepsTo 6 = .ok (.imul, 1) := by decide +kernel
theorem dX1_pullByStepsTo_7 : decode cX1_pullByStepsTo 7 = .ok (.istore_n 2, 1) := by decide +kernel
theorem dX1_pullByStepsTo_8 : decode cX1_pullByStepsTo 8 = .ok (.iconst 1, 1) := by decide +kernel
theorem dX1_pullByStepsTo_9 : decode cX1_pullByStepsTo 9 = .ok (.istore_n 3, 1) := by decide +kernel
theorem dX1_pullByStepsTo_10 : decode cX1_pullByStepsTo 10 = .ok (.iload_n 3, 1) := by decide +kernel
theorem dX1_pullByStepsTo_11 : decode cX1_pullByStepsTo 11 = .ok (.iload_n 1, 1) := by decide +kernel
theorem dX1_pullByStepsTo_12 : decode cX1_pullByStepsTo 12 = .ok (.if_icmp .gt 17, 3) := by decide +kernel
theorem dX1_pullByStepsTo_15 : decode cX1_pullByStepsTo 15 = .ok (.iload_n 2, 1) := by decide +kernel
theorem dX1_pullByStepsTo_16 : decode cX1_pullByStepsTo 16 = .ok (.aload_n 0, 1) := by decide +kernel
theorem dX1_pullByStepsTo_17 : decode cX1_pullByStepsTo 17 = .ok (.iload_n 3, 1) := by decide +kernel
theorem dX1_pullByStepsTo_18 : decode cX1_pullByStepsTo 18 = .ok (.invokevirtual 56, 3) := by decide +kernel
theorem dX1_pullByStepsTo_21 : decode cX1_pullByStepsTo 21 = .ok (.iadd, 1) := by decide +kernel
theorem dX1_pullByStepsTo_22 : decode cX1_pullByStepsTo 22 = .ok (.istore_n 2, 1) := by decide +kernel
theorem dX1_pullByStepsTo_23 : decode cX1_pullByStepsTo 23 = .ok (.iinc 3 1, 3) := by decide +kernel
theorem dX1_pullByStepsTo_26 : decode cX1_pullByStepsTo 26 = .ok (.goto (-16), 3) := by decide +kernel
theorem dX1_pullByStepsTo_29 : decode cX1_pullByStepsTo 29 = .ok (.iload_n 2, 1) := by decide +kernel
theorem dX1_pullByStepsTo_30 : decode cX1_pullByStepsTo 30 = .ok (.ireturn, 1) := by decide +kernel
theorem dX1_liftAddedBy_0 : decode cX1_liftAddedBy 0 = .ok (.aload_n 0, 1) := by decide +kernel
theorem dX1_liftAddedBy_1 : decode cX1_liftAddedBy 1 = .ok (.getfield 15, 3) := by decide +kernel
theorem dX1_liftAddedBy_4 : decode cX1_liftAddedBy 4 = .ok (.lookupswitch 49 #[(0, 28), (1, 41)], 28) := by decide +kernel
theorem dX1_liftAddedBy_32 : decode cX1_liftAddedBy 32 = .ok (.iconst 5, 1) := by decide +kernel
theorem dX1_liftAddedBy_33 : decode cX1_liftAddedBy 33 = .ok (.aload_n 0, 1) := by decide +kernel
theorem dX1_liftAddedBy_34 : decode cX1_liftAddedBy 34 = .ok (.getfield 18, 3) := by decide +kernel
theorem dX1_liftAddedBy_37 : decode cX1_liftAddedBy 37 = .ok (.imul, 1) := by decide +kernel
theorem dX1_liftAddedBy_38 : decode cX1_liftAddedBy 38 = .ok (.iconst 2, 1) := by decide +kernel
theorem dX1_liftAddedBy_39 : decode cX1_liftAddedBy 39 = .ok (.iload_n 1, 1) := by decide +kernel
theorem dX1_liftAddedBy_40 : decode cX1_liftAddedBy 40 = .ok (.imul, 1) := by decide +kernel
theorem dX1_liftAddedBy_41 : decode cX1_liftAddedBy 41 = .ok (.iconst 1, 1) := by decide +kernel
theorem dX1_liftAddedBy_42 : decode cX1_liftAddedBy 42 = .ok (.isub, 1) := by decide +kernel
theorem dX1_liftAddedBy_43 : decode cX1_liftAddedBy 43 = .ok (.imul, 1) := by decide +kernel
theorem dX1_liftAddedBy_44 : decode cX1_liftAddedBy 44 = .ok (.ireturn, 1) := by decide +kernel
theorem dX1_liftAddedBy_45 : decode cX1_liftAddedBy 45 = .ok (.bipush 60, 2) := by decide +kernel
theorem dX1_liftAddedBy_47 : decode cX1_liftAddedBy 47 = .ok (.aload_n 0, 1) := by decide +kernel
theorem dX1_liftAddedBy_48 : decode cX1_liftAddedBy 48 = .ok (.getfield 18, 3) := by decide +kernel
theorem dX1_liftAddedBy_51 : decode cX1_liftAddedBy 51 = .ok (.imul, 1) := by decide +kernel
theorem dX1_liftAddedBy_52 : decode cX1_liftAddedBy 52 = .ok (.ireturn, 1) := by decide +kernel
theorem dX1_liftAddedBy_53 : decode cX1_liftAddedBy 53 = .ok (.iload_n 1, 1) := by decide +kernel
theorem dX1_liftAddedBy_54 : decode cX1_liftAddedBy 54 = .ok (.bipush 10, 2) := by decide +kernel
theorem dX1_liftAddedBy_56 : decode cX1_liftAddedBy 56 = .ok (.if_icmp .gt 13, 3) := by decide +kernel
theorem dX1_liftAddedBy_59 : decode cX1_liftAddedBy 59 = .ok (.bipush 80, 2) := by decide +kernel
theorem dX1_liftAddedBy_61 : decode cX1_liftAddedBy 61 = .ok (.aload_n 0, 1) := by decide +kernel
theorem dX1_liftAddedBy_62 : decode cX1_liftAddedBy 62 = .ok (.getfield 18, 3) := by decide +kernel
theorem dX1_liftAddedBy_65 : decode cX1_liftAddedBy 65 = .ok (.imul, 1) := by decide +kernel
theorem dX1_liftAddedBy_66 : decode cX1_liftAddedBy 66 = .ok (.goto 4, 3) := by decide +kernel
theorem dX1_liftAddedBy_69 : decode cX1_liftAddedBy 69 = .ok (.iconst 0, 1) := by decide +kernel
theorem dX1_liftAddedBy_70 : decode cX1_liftAddedBy 70 = .ok (.ireturn, 1) := by decide +kernel
set_option maxRecDepth 20000 in
theorem ggX1_endIn_X1_endAt : GoodIn wsX1_endIn wsX1_endAt := goodIn_r _ [7, 8, 9, 10, 6, 11, 12, 13, 14, 15, 16, 17, 18, 19, 20, 21, 22, 23, 24, 25, 26, 27] (by decide +kernel) (by decide +kernel)
set_option maxRecDepth 20000 in
theorem gX1_endIn_X1_endAt : GoodIn wsX1_endIn (wsV RX1 63 RX1 yX1_endAt wsX1_endAt) := goodIn_app (goodIn_of _ (by decide +kernel)) ggX1_endIn_X1_endAt
theorem dX1_endIn_0 : decode cX1_endIn 0 = .ok (.aload_n 0, 1) := by decide +kernel
theorem dX1_endIn_1 : decode cX1_endIn 1 = .ok (.aload_n 0, 1) := by decide +kernel
theorem dX1_endIn_2 : decode cX1_endIn 2 = .ok (.getfield 27, 3) := by decide +kernel
theorem dX1_endIn_5 : decode cX1_endIn 5 = .ok (.aload_n 0, 1) := by decide +kernel
theorem dX1_endIn_6 : decode cX1_endIn 6 = .ok (.getfield 60, 3) := by decide +kernel
theorem dX1_endIn_9 : decode cX1_endIn 9 = .ok (.iload_n 1, 1) := by decide +kernel
theorem dX1_endIn_10 : decode cX1_endIn 10 = .ok (.iload_n 2, 1) := by decide +kernel
theorem dX1_endIn_11 : decode cX1_endIn 11 = .ok (.invokevirtual 63, 3) := by decide +kernel
theorem dX1_endIn_14 : decode cX1_endIn 14 = .ok (.ireturn, 1) := by decide +kernel
set_option maxRecDepth 20000 in
theorem ggX1_endAt_X1_pullIn : GoodIn wsX1_endAt wsX1_pullIn := goodIn_r _ [5, 6, 7, 8, 9, 4, 10, 11, 12, 13, 14, 15, 16, 17, 18, 19, 20, 21] (by decide +kernel) (by decide +kernel)
set_option maxRecDepth 20000 in
theorem gX1_endAt_X1_pullIn : GoodIn wsX1_endAt (wsV RX1 45 RX1 yX1_pullIn wsX1_pullIn) := goodIn_app (goodIn_of _ (by decide +kernel)) ggX1_endAt_X1_pullIn
theorem dX1_endAt_0 : decode cX1_endAt 0 = .ok (.sipush 1000, 3) := by decide +kernel
theorem dX1_endAt_3 : decode cX1_endAt 3 = .ok (.aload_n 0, 1) := by decide +kernel
theorem dX1_endAt_4 : decode cX1_endAt 4 = .ok (.iload_n 3, 1) := by decide +kernel
theorem dX1_endAt_5 : decode cX1_endAt 5 = .ok (.invokevirtual 45, 3) := by decide +kernel
theorem dX1_endAt_8 : decode cX1_endAt 8 = .ok (.iadd, 1) := by decide +kernel
theorem dX1_endAt_9 : decode cX1_endAt 9 = .ok (.istore 5, 2) := by decide +kernel
theorem dX1_endAt_11 : decode cX1_endAt 11 = .ok (.iload 5, 2) := by decide +kernel
theorem dX1_endAt_13 : decode cX1_endAt 13 = .ok (.ifCond .le 17, 3) := by decide +kernel
theorem dX1_endAt_16 : decode cX1_endAt 16 = .ok (.iload 4, 2) := by decide +kernel
theorem dX1_endAt_18 : decode cX1_endAt 18 = .ok (.iload_n 2, 1) := by decide +kernel
theorem dX1_endAt_19 : decode cX1_endAt 19 = .ok (.imul, 1) := by decide +kernel
theorem dX1_endAt_20 : decode cX1_endAt 20 = .ok (.sipush 1000, 3) := by decide +kernel
theorem dX1_endAt_23 : decode cX1_endAt 23 = .ok (.imul, 1) := by decide +kernel
theorem dX1_endAt_24 : decode cX1_endAt 24 = .ok (.iload 5, 2) := by decide +kernel
theorem dX1_endAt_26 : decode cX1_endAt 26 = .ok (.idiv, 1) := by decide +kernel
theorem dX1_endAt_27 : decode cX1_endAt 27 = .ok (.goto 4, 3) := by decide +kernel
theorem dX1_endAt_30 : decode cX1_endAt 30 = .ok (.iconst 0, 1) := by decide +kernel
theorem dX1_endAt_31 : decode cX1_endAt 31 = .ok (.istore 6, 2) := by decide +kernel
theorem dX1_endAt_33 : decode cX1_endAt 33 = .ok (.bipush 100, 2) := by decide +kernel
theorem dX1_endAt_35 : decode cX1_endAt 35 = .ok (.iload_n 1, 1) := by decide +kernel
theorem dX1_endAt_36 : decode cX1_endAt 36 = .ok (.imul, 1) := by decide +kernel
theorem dX1_endAt_37 : decode cX1_endAt 37 = .ok (.iload 6, 2) := by decide +kernel
theorem dX1_endAt_39 : decode cX1_endAt 39 = .ok (.iadd, 1) := by decide +kernel
theorem dX1_endAt_40 : decode cX1_endAt 40 = .ok (.ireturn, 1) := by decide +kernel
set_option maxRecDepth 20000 in
theorem ggX1_spendHour_X1_isFlying : GoodIn wsX1_spendHour wsX1_isFlying := goodIn_r _ [6, 7, 8, 9, 10, 11, 12, 13, 14, 15, 16] (by decide +kernel) (by decide +kernel)
set_option maxRecDepth 20000 in
theorem gX1_spendHour_X1_isFlying : GoodIn wsX1_spendHour (wsV RX1 37 RX1 yX1_isFlying wsX1_isFlying) := goodIn_app (goodIn_of _ (by decide +kernel)) ggX1_spendHour_X1_isFlying
theorem dX1_spendHour_0 : decode cX1_spendHour 0 = .ok (.iload_n 1, 1) := by decide +kernel
theorem dX1_spendHour_1 : decode cX1_spendHour 1 = .ok (.ifCond .eq 19, 3) := by decide +kernel
theorem dX1_spendHour_4 : decode cX1_spendHour 4 = .ok (.aload_n 0, 1) := by decide +kernel
theorem dX1_spendHour_5 : decode cX1_spendHour 5 = .ok (.invokevirtual 37, 3) := by decide +kernel
theorem dX1_spendHour_8 : decode cX1_spendHour 8 = .ok (.ifCond .eq 12, 3) := by decide +kernel
theorem dX1_spendHour_11 : decode cX1_spendHour 11 = .ok (.aload_n 0, 1) := by decide +kernel
theorem dX1_spendHour_12 : decode cX1_spendHour 12 = .ok (.bipush 6, 2) := by decide +kernel
theorem dX1_spendHour_14 : decode cX1_spendHour 14 = .ok (.putfield 34, 3) := by decide +kernel
theorem dX1_spendHour_17 : decode cX1_spendHour 17 = .ok (.goto 20, 3) := by decide +kernel
theorem dX1_spendHour_20 : decode cX1_spendHour 20 = .ok (.aload_n 0, 1) := by decide +kernel
theorem dX1_spendHour_21 : decode cX1_spendHour 21 = .ok (.getfield 34, 3) := by decide +kernel
theorem dX1_spendHour_24 : decode cX1_spendHour 24 = .ok (.ifCond .le 13, 3) := by decide +kernel
theorem dX1_spendHour_27 : decode cX1_spendHour 27 = .ok (.aload_n 0, 1) := by decide +kernel
theorem dX1_spendHour_28 : decode cX1_spendHour 28 = .ok (.dup, 1) := by decide +kernel
theorem dX1_spendHour_29 : decode cX1_spendHour 29 = .ok (.getfield 34, 3) := by decide +kernel
theorem dX1_spendHour_32 : decode cX1_spendHour 32 = .ok (.iconst 1, 1) := by decide +kernel
theorem dX1_spendHour_33 : decode cX1_spendHour 33 = .ok (.isub, 1) := by decide +kernel
theorem dX1_spendHour_34 : decode cX1_spendHour 34 = .ok (.putfield 34, 3) := by decide +kernel
theorem dX1_spendHour_37 : decode cX1_spendHour 37 = .ok (.return_, 1) := by decide +kernel
theorem dX2_init_0 : decode cX2_init 0 = .ok (.aload_n 0, 1) := by decide +kernel
theorem dX2_init_1 : decode cX2_init 1 = .ok (.invokespecial 3, 3) := by decide +kernel
theorem dX2_init_4 : decode cX2_init 4 = .ok (.aload_n 0, 1) := by decide +kernel
theorem dX2_init_5 : decode cX2_init 5 = .ok (.bipush 8, 2) := by decide +kernel
theorem dX2_init_7 : decode cX2_init 7 = .ok (.anewarray 9, 3) := by decide +kernel
theorem dX2_init_10 : decode cX2_init 10 = .ok (.putfield 11, 3) := by decide +kernel
theorem dX2_init_13 : decode cX2_init 13 = .ok (.aload_n 0, 1) := by decide +kernel
theorem dX2_init_14 : decode cX2_init 14 = .ok (.bipush 8, 2) := by decide +kernel
theorem dX2_init_16 : decode cX2_init 16 = .ok (.anewarray 15, 3) := by decide +kernel
theorem dX2_init_19 : decode cX2_init 19 = .ok (.putfield 17, 3) := by decide +kernel
theorem dX2_init_22 : decode cX2_init 22 = .ok (.aload_n 0, 1) := by decide +kernel
theorem dX2_init_23 : decode cX2_init 23 = .ok (.bipush 10, 2) := by decide +kernel
theorem dX2_init_25 : decode cX2_init 25 = .ok (.anewarray 9, 3) := by decide +kernel
theorem dX2_init_28 : decode cX2_init 28 = .ok (.putfield 21, 3) := by decide +kernel
theorem dX2_init_31 : decode cX2_init 31 = .ok (.return_, 1) := by decide +kernel
set_option maxRecDepth 20000 in
theorem ggX2_kite_X2_isWithin : GoodIn wsX2_kite wsX2_isWithin := goodIn_r _ [13] (by decide +kernel) (by decide +kernel)
set_option maxRecDepth 20000 in
theorem gX2_kite_X2_isWithin : GoodIn wsX2_kite (va_wsS RX2 24 yX2_isWithin wsX2_isWithin) := goodIn_app (goodIn_of _ (by decide +kernel)) ggX2_kite_X2_isWithin
set_option maxRecDepth 20000 in
theorem ggX2_kite_X1_init : GoodIn wsX2_kite wsX1_init := goodIn_r _ [16, 17, 18, 19, 20, 21, 22, 23, 24, 25, 35, 36, 37, 38, 39, 40, 41, 42, 43] (by decide +kernel) (by decide +kernel)
set_option maxRecDepth 20000 in
theorem gX2_kite_X1_init : GoodIn wsX2_kite (wsX1_init) := ggX2_kite_X1_init
theorem dX2_kite_0 : decode cX2_kite 0 = .ok (.iload_n 1, 1) := by decide +kernel
theorem dX2_kite_1 : decode cX2_kite 1 = .ok (.iconst 0, 1) := by decide +kernel
theorem dX2_kite_2 : decode cX2_kite 2 = .ok (.iconst 2, 1) := by decide +kernel
theorem dX2_kite_3 : decode cX2_kite 3 = .ok (.invokestatic 24, 3) := by decide +kernel
theorem dX2_kite_6 : decode cX2_kite 6 = .ok (.ifCond .eq 23, 3) := by decide +kernel
theorem dX2_kite_9 : decode cX2_kite 9 = .ok (.iload_n 2, 1) := by decide +kernel
theorem dX2_kite_10 : decode cX2_kite 10 = .ok (.iconst 1, 1) := by decide +kernel
theorem dX2_kite_11 : decode cX2_kite 11 = .ok (.bipush 20, 2) := by decide +kernel
theorem dX2_kite_13 : decode cX2_kite 13 = .ok (.invokestatic 24, 3) := by decide +kernel
theorem dX2_kite_16 : decode cX2_kite 16 = .ok (.ifCond .eq 13, 3) := by decide +kernel
theorem dX2_kite_19 : decode cX2_kite 19 = .ok (.iload_n 3, 1) := by decide +kernel
theorem dX2_kite_20 : decode cX2_kite 20 = .ok (.iconst 1, 1) := by decide +kernel
theorem dX2_kite_21 : decode cX2_kite 21 = .ok (.bipush 20, 2) := by decide +kernel
theorem dX2_kite_23 : decode cX2_kite 23 = .ok (.invokestatic 24, 3) := by decide +kernel
theorem dX2_kite_26 : decode cX2_kite 26 = .ok (.ifCond .ne 13, 3) := by decide +kernel
theorem dX2_kite_29 : decode cX2_kite 29 = .ok (.new 28, 3) := by decide +kernel
theorem dX2_kite_32 : decode cX2_kite 32 = .ok (.dup, 1) := by decide +kernel
theorem dX2_kite_33 : decode cX2_kite 33 = .ok (.ldc 30, 2) := by decide +kernel
theorem dX2_kite_35 : decode cX2_kite 35 = .ok (.invokespecial 32, 3) := by decide +kernel
theorem dX2_kite_38 : decode cX2_kite 38 = .ok (.athrow, 1) := by decide +kernel
theorem dX2_kite_39 : decode cX2_kite 39 = .ok (.aload_n 0, 1) := by decide +kernel
theorem dX2_kite_40 : decode cX2_kite 40 = .ok (.getfield 35, 3) := by decide +kernel
theorem dX2_kite_43 : decode cX2_kite 43 = .ok (.bipush 8, 2) := by decide +kernel
theorem dX2_kite_45 : decode cX2_kite 45 = .ok (.if_icmp .lt 13, 3) := by decide +kernel
theorem dX2_kite_48 : decode cX2_kite 48 = .ok (.new 39, 3) := by decide +kernel
theorem dX2_kite_51 : decode cX2_kite 51 = .ok (.dup, 1) := by decide +kernel
theorem dX2_kite_52 : decode cX2_kite 52 = .ok (.ldc 41, 2) := by decide +kernel
theorem dX2_kite_54 : decode cX2_kite 54 = .ok (.invokespecial 43, 3) := by decide +kernel
theorem dX2_kite_57 : decode cX2_kite 57 = .ok (.athrow, 1) := by decide +kernel
theorem dX2_kite_58 : decode cX2_kite 58 = .ok (.aload_n 0, 1) := by decide +kernel
theorem dX2_kite_59 : decode cX2_kite 59 = .ok (.getfield 35, 3) := by decide +kernel
theorem dX2_kite_62 : decode cX2_kite 62 = .ok (.istore 4, 2) := by decide +kernel
theorem dX2_kite_64 : decode cX2_kite 64 = .ok (.aload_n 0, 1) := by decide +kernel
theorem dX2_kite_65 : decode cX2_kite 65 = .ok (.getfield 11, 3) := by decide +kernel
theorem dX2_kite_68 : decode cX2_kite 68 = .ok (.iload 4, 2) := by decide +kernel
theorem dX2_kite_70 : decode cX2_kite 70 = .ok (.new 9, 3) := by decide +kernel
theorem dX2_kite_73 : decode cX2_kite 73 = .ok (.dup, 1) := by decide +kernel
theorem dX2_kite_74 : decode cX2_kite 74 = .ok (.iload 4, 2) := by decide +kernel
theorem dX2_kite_76 : decode cX2_kite 76 = .ok (.iload_n 1, 1) := by decide +kernel
theorem dX2_kite_77 : decode cX2_kite 77 = .ok (.iload_n 2, 1) := by decide +kernel
theorem dX2_kite_78 : decode cX2_kite 78 = .ok (.iload_n 3, 1) := by decide +kernel
theorem dX2_kite_79 : decode cX2_kite 79 = .ok (.invokespecial 44, 3) := by decide +kernel
theorem dX2_kite_82 : decode cX2_kite 82 = .ok (.aastore, 1) := by decide +kernel
theorem dX2_kite_83 : decode cX2_kite 83 = .ok (.aload_n 0, 1) := by decide +kernel
theorem dX2_kite_84 : decode cX2_kite 84 = .ok (.dup, 1) := by decide +kernel
theorem dX2_kite_85 : decode cX2_kite 85 = .ok (.getfield 35, 3) := by decide +kernel
theorem dX2_kite_88 : decode cX2_kite 88 = .ok (.iconst 1, 1) := by decide +kernel
theorem dX2_kite_89 : decode cX2_kite 89 = .ok (.iadd, 1) := by decide +kernel
theorem dX2_kite_90 : decode cX2_kite 90 = .ok (.putfield 35, 3) := by decide +kernel
theorem dX2_kite_93 : decode cX2_kite 93 = .ok (.iload 4, 2) := by decide +kernel
theorem dX2_kite_95 : decode cX2_kite 95 = .ok (.ireturn, 1) := by decide +kernel
set_option maxRecDepth 20000 in
theorem ggX2_patch_X2_kiteAt : GoodIn wsX2_patch wsX2_kiteAt := goodIn_ca (goodIn_r _ [9, 10, 11, 12, 13, 14, 8, 15, 25, 26, 27, 28, 29, 30, 31, 32, 33] (by decide +kernel) (by decide +kernel)) (goodIn_sub (fun _ h => List.mem_cons_of_mem _ (List.mem_append_right _ h)) (by decide +kernel))
set_option maxRecDepth 20000 in
theorem gX2_patch_X2_kiteAt : GoodIn wsX2_patch (wsV RX2 47 RX2 yX2_kiteAt wsX2_kiteAt) := goodIn_app (goodIn_of _ (by decide +kernel)) ggX2_patch_X2_kiteAt
theorem dX2_patch_0 : decode cX2_patch 0 = .ok (.aload_n 0, 1) := by decide +kernel
theorem dX2_patch_1 : decode cX2_patch 1 = .ok (.iload_n 1, 1) := by decide +kernel
theorem dX2_patch_2 : decode cX2_patch 2 = .ok (.invokevirtual 47, 3) := by decide +kernel
theorem dX2_patch_5 : decode cX2_patch 5 = .ok (.astore_n 2, 1) := by decide +kernel
theorem dX2_patch_6 : decode cX2_patch 6 = .ok (.aload_n 2, 1) := by decide +kernel
theorem dX2_patch_7 : decode cX2_patch 7 = .ok (.getfield 51, 3) := by decide +kernel
theorem dX2_patch_10 : decode cX2_patch 10 = .ok (.ifCond .ne 13, 3) := by decide +kernel
theorem dX2_patch_13 : decode cX2_patch 13 = .ok (.new 39, 3) := by decide +kernel
theorem dX2_patch_16 : decode cX2_patch 16 = .ok (.dup, 1) := by decide +kernel
theorem dX2_patch_17 : decode cX2_patch 17 = .ok (.ldc 55, 2) := by decide +kernel
theorem dX2_patch_19 : decode cX2_patch 19 = .ok (.invokespecial 43, 3) := by decide +kernel
theorem dX2_patch_22 : decode cX2_patch 22 = .ok (.athrow, 1) := by decide +kernel
theorem dX2_patch_23 : decode cX2_patch 23 = .ok (.aload_n 2, 1) := by decide +kernel
theorem dX2_patch_24 : decode cX2_patch 24 = .ok (.getfield 57, 3) := by decide +kernel
theorem dX2_patch_27 : decode cX2_patch 27 = .ok (.iconst 2, 1) := by decide +kernel
theorem dX2_patch_28 : decode cX2_patch 28 = .ok (.iadd, 1) := by decide +kernel
theorem dX2_patch_29 : decode cX2_patch 29 = .ok (.bipush 40, 2) := by decide +kernel
theorem dX2_patch_31 : decode cX2_patch 31 = .ok (.if_icmp .le 13, 3) := by decide +kernel
theorem dX2_patch_34 : decode cX2_patch 34 = .ok (.new 39, 3) := by decide +kernel
theorem dX2_patch_37 : decode cX2_patch 37 = .ok (.dup, 1) := by decide +kernel
theorem dX2_patch_38 : decode cX2_patch 38 = .ok (.ldc 60, 2) := by decide +kernel
theorem dX2_patch_40 : decode cX2_patch 40 = .ok (.invokespecial 43, 3) := by decide +kernel
theorem dX2_patch_43 : decode cX2_patch 43 = .ok (.athrow, 1) := by decide +kernel
theorem dX2_patch_44 : decode cX2_patch 44 = .ok (.aload_n 2, 1) := by decide +kernel
theorem dX2_patch_45 : decode cX2_patch 45 = .ok (.iconst 0, 1) := by decide +kernel
theorem dX2_patch_46 : decode cX2_patch 46 = .ok (.putfield 51, 3) := by decide +kernel
theorem dX2_patch_49 : decode cX2_patch 49 = .ok (.aload_n 2, 1) := by decide +kernel
theorem dX2_patch_50 : decode cX2_patch 50 = .ok (.dup, 1) := by decide +kernel
theorem dX2_patch_51 : decode cX2_patch 51 = .ok (.getfield 57, 3) := by decide +kernel
theorem dX2_patch_54 : decode cX2_patch 54 = .ok (.iconst 2, 1) := by decide +kernel
theorem dX2_patch_55 : decode cX2_patch 55 = .ok (.iadd, 1) := by decide +kernel
theorem dX2_patch_56 : decode cX2_patch 56 = .ok (.putfield 57, 3) := by decide +kernel
theorem dX2_patch_59 : decode cX2_patch 59 = .ok (.aload_n 2, 1) := by decide +kernel
theorem dX2_patch_60 : decode cX2_patch 60 = .ok (.getfield 57, 3) := by decide +kernel
theorem dX2_patch_63 : decode cX2_patch 63 = .ok (.ireturn, 1) := by decide +kernel
set_option maxRecDepth 20000 in
theorem ggX2_borrower_X2_isWithin : GoodIn wsX2_borrower wsX2_isWithin := goodIn_r _ [13] (by decide +kernel) (by decide +kernel)
set_option maxRecDepth 20000 in
theorem gX2_borrower_X2_isWithin : GoodIn wsX2_borrower (va_wsS RX2 24 yX2_isWithin wsX2_isWithin) := goodIn_app (goodIn_of _ (by decide +kernel)) ggX2_borrower_X2_isWithin
set_option maxRecDepth 20000 in
theorem ggX2_borrower_X0_init : GoodIn wsX2_borrower wsX0_init := goodIn_r _ [16, 17, 18, 19, 20, 30, 31] (by decide +kernel) (by decide +kernel)
set_option maxRecDepth 20000 in
theorem gX2_borrower_X0_init : GoodIn wsX2_borrower (wsX0_init) := ggX2_borrower_X0_init
theorem dX2_borrower_0 : decode cX2_borrower 0 = .ok (.iload_n 1, 1) := by decide +kernel
theorem dX2_borrower_1 : decode cX2_borrower 1 = .ok (.iconst 1, 1) := by decide +kernel
theorem dX2_borrower_2 : decode cX2_borrower 2 = .ok (.iconst 3, 1) := by decide +kernel
theorem dX2_borrower_3 : decode cX2_borrower 3 = .ok (.invokestatic 24, 3) := by decide +kernel
theorem dX2_borrower_6 : decode cX2_borrower 6 = .ok (.ifCond .ne 13, 3) := by decide +kernel
theorem dX2_borrower_9 : decode cX2_borrower 9 = .ok (.new 28, 3) := by decide +kernel
theorem dX2_borrower_12 : decode cX2_borrower 12 = .ok (.dup, 1) := by decide +kernel
theorem dX2_borrower_13 : decode cX2_borrower 13 = .ok (.ldc 62, 2) := by decide +kernel
theorem dX2_borrower_15 : decode cX2_borrower 15 = .ok (.invokespecial 32, 3) := by decide +kernel
theorem dX2_borrower_18 : decode cX2_borrower 18 = .ok (.athrow, 1) := by decide +kernel
theorem dX2_borrower_19 : decode cX2_borrower 19 = .ok (.aload_n 0, 1) := by decide +kernel
theorem dX2_borrower_20 : decode cX2_borrower 20 = .ok (.getfield 64, 3) := by decide +kernel
theorem dX2_borrower_23 : decode cX2_borrower 23 = .ok (.bipush 8, 2) := by decide +kernel
theorem dX2_borrower_25 : decode cX2_borrower 25 = .ok (.if_icmp .lt 13, 3) := by decide +kernel
theorem dX2_borrower_28 : decode cX2_borrower 28 = .ok (.new 39, 3) := by decide +kernel
theorem dX2_borrower_31 : decode cX2_borrower 31 = .ok (.dup, 1) := by decide +kernel
theorem dX2_borrower_32 : decode cX2_borrower 32 = .ok (.ldc 67, 2) := by decide +kernel
theorem dX2_borrower_34 : decode cX2_borrower 34 = .ok (.invokespecial 43, 3) := by decide +kernel
theorem dX2_borrower_37 : decode cX2_borrower 37 = .ok (.athrow, 1) := by decide +kernel
theorem dX2_borrower_38 : decode cX2_borrower 38 = .ok (.aload_n 0, 1) := by decide +kernel
theorem dX2_borrower_39 : decode cX2_borrower 39 = .ok (.getfield 64, 3) := by decide +kernel
theorem dX2_borrower_42 : decode cX2_borrower 42 = .ok (.istore_n 2, 1) := by decide +kernel
theorem dX2_borrower_43 : decode cX2_borrower 43 = .ok (.aload_n 0, 1) := by decide +kernel
theorem dX2_borrower_44 : decode cX2_borrower 44 = .ok (.getfield 17, 3) := by decide +kernel
theorem dX2_borrower_47 : decode cX2_borrower 47 = .ok (.iload_n 2, 1) := by decide +kernel
theorem dX2_borrower_48 : decode cX2_borrower 48 = .ok (.new 15, 3) := by decide +kernel
theorem dX2_borrower_51 : decode cX2_borrower 51 = .ok (.dup, 1) := by decide +kernel
theorem dX2_borrower_52 : decode cX2_borrower 52 = .ok (.iload_n 1, 1) := by decide +kernel
theorem dX2_borrower_53 : decode cX2_borrower 53 = .ok (.invokespecial 69, 3) := by decide +kernel
theorem dX2_borrower_56 : decode cX2_borrower 56 = .ok (.aastore, 1) := by decide +kernel
theorem dX2_borrower_57 : decode cX2_borrower 57 = .ok (.aload_n 0, 1) := by decide +kernel
theorem dX2_borrower_58 : decode cX2_borrower 58 = .ok (.dup, 1) := by decide +kernel
theorem dX2_borrower_59 : decode cX2_borrower 59 = .ok (.getfield 64, 3) := by decide +kernel
theorem dX2_borrower_62 : decode cX2_borrower 62 = .ok (.iconst 1, 1) := by decide +kernel
theorem dX2_borrower_63 : decode cX2_borrower 63 = .ok (.iadd, 1) := by decide +kernel
theorem dX2_borrower_64 : decode cX2_borrower 64 = .ok (.putfield 64, 3) := by decide +kernel
theorem dX2_borrower_67 : decode cX2_borrower 67 = .ok (.iload_n 2, 1) := by decide +kernel
theorem dX2_borrower_68 : decode cX2_borrower 68 = .ok (.ireturn, 1) := by decide +kernel
set_option maxRecDepth 20000 in
theorem ggX2_lend_X2_kiteAt : GoodIn wsX2_lend wsX2_kiteAt := goodIn_ca (goodIn_r _ [9, 10, 11, 12, 13, 14, 8, 15, 48, 49, 50, 51, 52, 53, 54, 55, 56] (by decide +kernel) (by decide +kernel)) (goodIn_sub (fun _ h => List.mem_cons_of_mem _ (List.mem_append_right _ h)) (by decide +kernel))
set_option maxRecDepth 20000 in
theorem gX2_lend_X2_kiteAt : GoodIn wsX2_lend (wsV RX2 47 RX2 yX2_kiteAt wsX2_kiteAt) := goodIn_app (goodIn_of _ (by decide +kernel)) ggX2_lend_X2_kiteAt
set_option maxRecDepth 20000 in
theorem ggX2_lend_X2_borrowerAt : GoodIn wsX2_lend wsX2_borrowerAt := goodIn_ca (goodIn_r _ [19, 10, 11, 20, 13, 14, 8, 15, 48, 49, 50, 51, 52, 53, 54, 55, 56] (by decide +kernel) (by decide +kernel)) (goodIn_sub (fun _ h => List.mem_cons_of_mem _ (List.mem_append_right _ h)) (by decide +kernel))
set_option maxRecDepth 20000 in
theorem gX2_lend_X2_borrowerAt : GoodIn wsX2_lend (wsV RX2 72 RX2 yX2_borrowerAt wsX2_borrowerAt) := goodIn_app (goodIn_of _ (by decide +kernel)) ggX2_lend_X2_borrowerAt
set_option maxRecDepth 20000 in
theorem ggX2_lend_X1_isLendable : GoodIn wsX2_lend wsX1_isLendable := goodIn_r _ [25, 26, 27, 28, 37, 38, 39, 40, 41, 42, 43, 44, 45] (by decide +kernel) (by decide +kernel)
set_option maxRecDepth 20000 in
theorem gX2_lend_X1_isLendable : GoodIn wsX2_lend (wsV RX2 76 RX1 yX1_isLendable wsX1_isLendable) := goodIn_app (goodIn_of _ (by decide +kernel)) ggX2_lend_X1_isLendable
set_option maxRecDepth 20000 in
theorem ggX2_lend_X0_canTake : GoodIn wsX2_lend wsX0_canTake := goodIn_r _ [33, 34, 35, 36, 46, 47, 37, 38, 39, 40, 41, 42, 43, 44, 45] (by decide +kernel) (by decide +kernel)
set_option maxRecDepth 20000 in
theorem gX2_lend_X0_canTake : GoodIn wsX2_lend (wsV RX2 80 RX0 yX0_canTake wsX0_canTake) := goodIn_app (goodIn_of _ (by decide +kernel)) ggX2_lend_X0_canTake
theorem dX2_lend_0 : decode cX2_lend 0 = .ok (.aload_n 0, 1) := by decide +kernel
theorem dX2_lend_1 : decode cX2_lend 1 = .ok (.iload_n 1, 1) := by decide +kernel
theorem dX2_lend_2 : decode cX2_lend 2 = .ok (.invokevirtual 47, 3) := by decide +kernel
theorem dX2_lend_5 : decode cX2_lend 5 = .ok (.astore_n 3, 1) := by decide +kernel
theorem dX2_lend_6 : decode cX2_lend 6 = .ok (.aload_n 0, 1) := by decide +kernel
theorem dX2_lend_7 : decode cX2_lend 7 = .ok (.iload_n 2, 1) := by decide +kernel
theorem dX2_lend_8 : decode cX2_lend 8 = .ok (.invokevirtual 72, 3) := by decide +kernel
theorem dX2_lend_11 : decode cX2_lend 11 = .ok (.astore 4, 2) := by decide +kernel
theorem dX2_lend_13 : decode cX2_lend 13 = .ok (.aload_n 3, 1) := by decide +kernel
theorem dX2_lend_14 : decode cX2_lend 14 = .ok (.invokevirtual 76, 3) := by decide +kernel
theorem dX2_lend_17 : decode cX2_lend 17 = .ok (.ifCond .eq 12, 3) := by decide +kernel
theorem dX2_lend_20 : decode cX2_lend 20 = .ok (.aload 4, 2) := by decide +kernel
theorem dX2_lend_22 : decode cX2_lend 22 = .ok (.aload_n 3, 1) := by decide +kernel
theorem dX2_lend_23 : decode cX2_lend 23 = .ok (.invokevirtual 80, 3) := by decide +kernel
theorem dX2_lend_26 : decode cX2_lend 26 = .ok (.ifCond .ne 13, 3) := by decide +kernel
theorem dX2_lend_29 : decode cX2_lend 29 = .ok (.new 39, 3) := by decide +kernel
theorem dX2_lend_32 : decode cX2_lend 32 = .ok (.dup, 1) := by decide +kernel
theorem dX2_lend_33 : decode cX2_lend 33 = .ok (.ldc 84, 2) := by decide +kernel
theorem dX2_lend_35 : decode cX2_lend 35 = .ok (.invokespecial 43, 3) := by decide +kernel
theorem dX2_lend_38 : decode cX2_lend 38 = .ok (.athrow, 1) := by decide +kernel
theorem dX2_lend_39 : decode cX2_lend 39 = .ok (.aload_n 3, 1) := by decide +kernel
theorem dX2_lend_40 : decode cX2_lend 40 = .ok (.iload_n 2, 1) := by decide +kernel
theorem dX2_lend_41 : decode cX2_lend 41 = .ok (.putfield 86, 3) := by decide +kernel
theorem dX2_lend_44 : decode cX2_lend 44 = .ok (.aload 4, 2) := by decide +kernel
theorem dX2_lend_46 : decode cX2_lend 46 = .ok (.aload_n 3, 1) := by decide +kernel
theorem dX2_lend_47 : decode cX2_lend 47 = .ok (.putfield 89, 3) := by decide +kernel
theorem dX2_lend_50 : decode cX2_lend 50 = .ok (.return_, 1) := by decide +kernel
set_option maxRecDepth 20000 in
theorem ggX2_giveBack_X2_borrowerAt : GoodIn wsX2_giveBack wsX2_borrowerAt := goodIn_ca (goodIn_r _ [10, 11, 12, 13, 14, 15, 9, 16, 34, 35, 36, 37, 38, 39, 40, 41, 42] (by decide +kernel) (by decide +kernel)) (goodIn_sub (fun _ h => List.mem_cons_of_mem _ (List.mem_append_right _ h)) (by decide +kernel))
set_option maxRecDepth 20000 in
theorem gX2_giveBack_X2_borrowerAt : GoodIn wsX2_giveBack (wsV RX2 72 RX2 yX2_borrowerAt wsX2_borrowerAt) := goodIn_app (goodIn_of _ (by decide +kernel)) ggX2_giveBack_X2_borrowerAt
set_option maxRecDepth 20000 in
theorem ggX2_giveBack_X1_isFlying : GoodIn wsX2_giveBack wsX1_isFlying := goodIn_r _ [21, 22, 25, 26, 27, 28, 29, 30, 31, 32, 33] (by decide +kernel) (by decide +kernel)
set_option maxRecDepth 20000 in
theorem gX2_giveBack_X1_isFlying : GoodIn wsX2_giveBack (wsV RX2 93 RX1 yX1_isFlying wsX1_isFlying) := goodIn_app (goodIn_of _ (by decide +kernel)) ggX2_giveBack_X1_isFlying
theorem dX2_giveBack_0 : decode cX2_giveBack 0 = .ok (.aload_n 0, 1) := by decide +kernel
theorem dX2_giveBack_1 : decode cX2_giveBack 1 = .ok (.iload_n 1, 1) := by decide +kernel
theorem dX2_giveBack_2 : decode cX2_giveBack 2 = .ok (.invokevirtual 72, 3) := by decide +kernel
theorem dX2_giveBack_5 : decode cX2_giveBack 5 = .ok (.astore_n 2, 1) := by decide +kernel
theorem dX2_giveBack_6 : decode cX2_giveBack 6 = .ok (.aload_n 2, 1) := by decide +kernel
theorem dX2_giveBack_7 : decode cX2_giveBack 7 = .ok (.getfield 89, 3) := by decide +kernel
theorem dX2_giveBack_10 : decode cX2_giveBack 10 = .ok (.astore_n 3, 1) := by decide +kernel
theorem dX2_giveBack_11 : decode cX2_giveBack 11 = .ok (.aload_n 3, 1) := by decide +kernel
theorem dX2_giveBack_12 : decode cX2_giveBack 12 = .ok (.ifnull 10, 3) := by decide +kernel
theorem dX2_giveBack_15 : decode cX2_giveBack 15 = .ok (.aload_n 3, 1) := by decide +kernel
theorem dX2_giveBack_16 : decode cX2_giveBack 16 = .ok (.invokevirtual 93, 3) := by decide +kernel
theorem dX2_giveBack_19 : decode cX2_giveBack 19 = .ok (.ifCond .eq 13, 3) := by decide +kernel
theorem dX2_giveBack_22 : decode cX2_giveBack 22 = .ok (.new 39, 3) := by decide +kernel
theorem dX2_giveBack_25 : decode cX2_giveBack 25 = .ok (.dup, 1) := by decide +kernel
theorem dX2_giveBack_26 : decode cX2_giveBack 26 = .ok (.ldc 96, 2) := by decide +kernel
theorem dX2_giveBack_28 : decode cX2_giveBack 28 = .ok (.invokespecial 43, 3) := by decide +kernel
theorem dX2_giveBack_31 : decode cX2_giveBack 31 = .ok (.athrow, 1) := by decide +kernel
theorem dX2_giveBack_32 : decode cX2_giveBack 32 = .ok (.aload_n 2, 1) := by decide +kernel
theorem dX2_giveBack_33 : decode cX2_giveBack 33 = .ok (.aconst_null, 1) := by decide +kernel
theorem dX2_giveBack_34 : decode cX2_giveBack 34 = .ok (.putfield 89, 3) := by decide +kernel
theorem dX2_giveBack_37 : decode cX2_giveBack 37 = .ok (.aload_n 3, 1) := by decide +kernel
theorem dX2_giveBack_38 : decode cX2_giveBack 38 = .ok (.iconst (-1), 1) := by decide +kernel
theorem dX2_giveBack_39 : decode cX2_giveBack 39 = .ok (.putfield 86, 3) := by decide +kernel
theorem dX2_giveBack_42 : decode cX2_giveBack 42 = .ok (.aload_n 3, 1) := by decide +kernel
theorem dX2_giveBack_43 : decode cX2_giveBack 43 = .ok (.getfield 98, 3) := by decide +kernel
theorem dX2_giveBack_46 : decode cX2_giveBack 46 = .ok (.ireturn, 1) := by decide +kernel
set_option maxRecDepth 20000 in
theorem ggX2_fly_X2_kiteAt : GoodIn wsX2_fly wsX2_kiteAt := goodIn_ca (goodIn_r _ [16, 1, 2, 17, 18, 19, 15, 20, 65, 66, 67, 68, 69, 70, 71, 72, 73] (by decide +kernel) (by decide +kernel)) (goodIn_sub (fun _ h => List.mem_cons_of_mem _ (List.mem_append_left _ (List.mem_append_left _ (List.mem_append_right _ h)))) (by decide +kernel))
set_option maxRecDepth 20000 in
theorem gX2_fly_X2_kiteAt : GoodIn wsX2_fly (wsV RX2 47 RX2 yX2_kiteAt wsX2_kiteAt) := goodIn_app (goodIn_of _ (by decide +kernel)) ggX2_fly_X2_kiteAt
set_option maxRecDepth 20000 in
theorem ggX2_fly_X2_isLane : GoodIn wsX2_fly wsX2_isLane := goodIn_r _ [23, 18, 19, 15, 20] (by decide +kernel) (by decide +kernel)
set_option maxRecDepth 20000 in
theorem gX2_fly_X2_isLane : GoodIn wsX2_fly (va_wsS RX2 101 yX2_isLane wsX2_isLane) := goodIn_app (goodIn_of _ (by decide +kernel)) ggX2_fly_X2_isLane
set_option maxRecDepth 20000 in
theorem ggX2_fly_X2_isWithin : GoodIn wsX2_fly wsX2_isWithin := goodIn_r _ [20] (by decide +kernel) (by decide +kernel)
set_option maxRecDepth 20000 in
theorem gX2_fly_X2_isWithin : GoodIn wsX2_fly (va_wsS RX2 24 yX2_isWithin wsX2_isWithin) := goodIn_app (goodIn_of _ (by decide +kernel)) ggX2_fly_X2_isWithin
set_option maxRecDepth 20000 in
theorem ggX2_fly_X1_isReadyIn : GoodIn wsX2_fly wsX1_isReadyIn := goodIn_r _ [28, 29, 30, 31, 32, 33, 27, 34, 35, 36, 37, 38, 39, 40, 41, 42, 43, 44, 45, 46, 47, 48, 49, 50, 19, 15, 20, 74, 75, 76, 77, 78, 79, 80, 81, 82] (by decide +kernel) (by decide +kernel)
set_option maxRecDepth 20000 in
theorem gX2_fly_X1_isReadyIn : GoodIn wsX2_fly (wsV RX2 115 RX1 yX1_isReadyIn wsX1_isReadyIn) := goodIn_app (goodIn_of _ (by decide +kernel)) ggX2_fly_X1_isReadyIn
set_option maxRecDepth 20000 in
theorem ggX2_fly_X1_endAt : GoodIn wsX2_fly wsX1_endAt := goodIn_r _ [54, 40, 41, 42, 27, 43, 44, 45, 46, 47, 48, 49, 50, 74, 75, 76, 77, 78, 79, 80, 81, 82] (by decide +kernel) (by decide +kernel)
set_option maxRecDepth 20000 in
theorem gX2_fly_X1_endAt : GoodIn wsX2_fly (wsV RX2 123 RX1 yX1_endAt wsX1_endAt) := goodIn_app (goodIn_of _ (by decide +kernel)) ggX2_fly_X1_endAt
set_option maxRecDepth 20000 in
theorem ggX2_fly_X2_wouldCross : GoodIn wsX2_fly wsX2_wouldCross := goodIn_r _ [58, 8, 7, 9, 59, 60, 61, 27, 62, 35, 63, 64, 52, 53, 54, 40, 41, 42, 43, 44, 45, 46, 47, 48, 49, 50, 65, 66, 67, 68, 69, 70, 71, 72, 73, 74, 75, 76, 77, 78, 79, 80, 81, 82] (by decide +kernel) (by decide +kernel)
set_option maxRecDepth 20000 in
theorem gX2_fly_X2_wouldCross : GoodIn wsX2_fly (wsV RX2 127 RX2 yX2_wouldCross wsX2_wouldCross) := goodIn_app (goodIn_of _ (by decide +kernel)) ggX2_fly_X2_wouldCross
theorem dX2_fly_0 : decode cX2_fly 0 = .ok (.aload_n 0, 1) := by decide +kernel
theorem dX2_fly_1 : decode cX2_fly 1 = .ok (.iload_n 1, 1) := by decide +kernel
theorem dX2_fly_2 : decode cX2_fly 2 = .ok (.invokevirtual 47, 3) := by decide +kernel
theorem dX2_fly_5 : decode cX2_fly 5 = .ok (.astore 4, 2) := by decide +kernel
theorem dX2_fly_7 : decode cX2_fly 7 = .ok (.iload_n 2, 1) := by decide +kernel
theorem dX2_fly_8 : decode cX2_fly 8 = .ok (.invokestatic 101, 3) := by decide +kernel
theorem dX2_fly_11 : decode cX2_fly 11 = .ok (.ifCond .ne 13, 3) := by decide +kernel
theorem dX2_fly_14 : decode cX2_fly 14 = .ok (.new 105, 3) := by decide +kernel
theorem dX2_fly_17 : decode cX2_fly 17 = .ok (.dup, 1) := by decide +kernel
theorem dX2_fly_18 : decode cX2_fly 18 = .ok (.ldc 107, 2) := by decide +kernel
theorem dX2_fly_20 : decode cX2_fly 20 = .ok (.invokespecial 109, 3) := by decide +kernel
theorem dX2_fly_23 : decode cX2_fly 23 = .ok (.athrow, 1) := by decide +kernel
theorem dX2_fly_24 : decode cX2_fly 24 = .ok (.iload_n 3, 1) := by decide +kernel
theorem dX2_fly_25 : decode cX2_fly 25 = .ok (.bipush 10, 2) := by decide +kernel
theorem dX2_fly_27 : decode cX2_fly 27 = .ok (.bipush 100, 2) := by decide +kernel
theorem dX2_fly_29 : decode cX2_fly 29 = .ok (.invokestatic 24, 3) := by decide +kernel
theorem dX2_fly_32 : decode cX2_fly 32 = .ok (.ifCond .ne 13, 3) := by decide +kernel
theorem dX2_fly_35 : decode cX2_fly 35 = .ok (.new 28, 3) := by decide +kernel
theorem dX2_fly_38 : decode cX2_fly 38 = .ok (.dup, 1) := by decide +kernel
theorem dX2_fly_39 : decode cX2_fly 39 = .ok (.ldc 110, 2) := by decide +kernel
theorem dX2_fly_41 : decode cX2_fly 41 = .ok (.invokespecial 32, 3) := by decide +kernel
theorem dX2_fly_44 : decode cX2_fly 44 = .ok (.athrow, 1) := by decide +kernel
theorem dX2_fly_45 : decode cX2_fly 45 = .ok (.aload 4, 2) := by decide +kernel
theorem dX2_fly_47 : decode cX2_fly 47 = .ok (.aload_n 0, 1) := by decide +kernel
theorem dX2_fly_48 : decode cX2_fly 48 = .ok (.getfield 112, 3) := by decide +kernel
theorem dX2_fly_51 : decode cX2_fly 51 = .ok (.invokevirtual 115, 3) := by decide +kernel
theorem dX2_fly_54 : decode cX2_fly 54 = .ok (.ifCond .eq 12, 3) := by decide +kernel
theorem dX2_fly_57 : decode cX2_fly 57 = .ok (.aload_n 0, 1) := by decide +kernel
theorem dX2_fly_58 : decode cX2_fly 58 = .ok (.getfield 21, 3) := by decide +kernel
theorem dX2_fly_61 : decode cX2_fly 61 = .ok (.iload_n 2, 1) := by decide +kernel
theorem dX2_fly_62 : decode cX2_fly 62 = .ok (.aaload, 1) := by decide +kernel
theorem dX2_fly_63 : decode cX2_fly 63 = .ok (.ifnull 13, 3) := by decide +kernel
theorem dX2_fly_66 : decode cX2_fly 66 = .ok (.new 39, 3) := by decide +kernel
theorem dX2_fly_69 : decode cX2_fly 69 = .ok (.dup, 1) := by decide +kernel
theorem dX2_fly_70 : decode cX2_fly 70 = .ok (.ldc 118, 2) := by decide +kernel
theorem dX2_fly_72 : decode cX2_fly 72 = .ok (.invokespecial 43, 3) := by decide +kernel
theorem dX2_fly_75 : decode cX2_fly 75 = .ok (.athrow, 1) := by decide +kernel
theorem dX2_fly_76 : decode cX2_fly 76 = .ok (.aload 4, 2) := by decide +kernel
theorem dX2_fly_78 : decode cX2_fly 78 = .ok (.iload_n 2, 1) := by decide +kernel
theorem dX2_fly_79 : decode cX2_fly 79 = .ok (.iload_n 3, 1) := by decide +kernel
theorem dX2_fly_80 : decode cX2_fly 80 = .ok (.aload_n 0, 1) := by decide +kernel
theorem dX2_fly_81 : decode cX2_fly 81 = .ok (.getfield 112, 3) := by decide +kernel
theorem dX2_fly_84 : decode cX2_fly 84 = .ok (.aload_n 0, 1) := by decide +kernel
theorem dX2_fly_85 : decode cX2_fly 85 = .ok (.getfield 120, 3) := by decide +kernel
theorem dX2_fly_88 : decode cX2_fly 88 = .ok (.invokevirtual 123, 3) := by decide +kernel
theorem dX2_fly_91 : decode cX2_fly 91 = .ok (.istore 5, 2) := by decide +kernel
theorem dX2_fly_93 : decode cX2_fly 93 = .ok (.aload_n 0, 1) := by decide +kernel
theorem dX2_fly_94 : decode cX2_fly 94 = .ok (.iload_n 2, 1) := by decide +kernel
theorem dX2_fly_95 : decode cX2_fly 95 = .ok (.iload 5, 2) := by decide +kernel
theorem dX2_fly_97 : decode cX2_fly 97 = .ok (.invokevirtual 127, 3) := by decide +kernel
theorem dX2_fly_100 : decode cX2_fly 100 = .ok (.ifCond .eq 13, 3) := by decide +kernel
theorem dX2_fly_103 : decode cX2_fly 103 = .ok (.new 39, 3) := by decide +kernel
theorem dX2_fly_106 : decode cX2_fly 106 = .ok (.dup, 1) := by decide +kernel
theorem dX2_fly_107 : decode cX2_fly 107 = .ok (.ldc 131, 2) := by decide +kernel
theorem dX2_fly_109 : decode cX2_fly 109 = .ok (.invokespecial 43, 3) := by decide +kernel
theorem dX2_fly_112 : decode cX2_fly 112 = .ok (.athrow, 1) := by decide +kernel
theorem dX2_fly_113 : decode cX2_fly 113 = .ok (.aload 4, 2) := by decide +kernel
theorem dX2_fly_115 : decode cX2_fly 115 = .ok (.iload_n 2, 1) := by decide +kernel
theorem dX2_fly_116 : decode cX2_fly 116 = .ok (.putfield 133, 3) := by decide +kernel
theorem dX2_fly_119 : decode cX2_fly 119 = .ok (.aload 4, 2) := by decide +kernel
theorem dX2_fly_121 : decode cX2_fly 121 = .ok (.iload_n 3, 1) := by decide +kernel
theorem dX2_fly_122 : decode cX2_fly 122 = .ok (.putfield 136, 3) := by decide +kernel
theorem dX2_fly_125 : decode cX2_fly 125 = .ok (.aload_n 0, 1) := by decide +kernel
theorem dX2_fly_126 : decode cX2_fly 126 = .ok (.getfield 21, 3) := by decide +kernel
theorem dX2_fly_129 : decode cX2_fly 129 = .ok (.iload_n 2, 1) := by decide +kernel
theorem dX2_fly_130 : decode cX2_fly 130 = .ok (.aload 4, 2) := by decide +kernel
theorem dX2_fly_132 : decode cX2_fly 132 = .ok (.aastore, 1) := by decide +kernel
theorem dX2_fly_133 : decode cX2_fly 133 = .ok (.iload 5, 2) := by decide +kernel
theorem dX2_fly_135 : decode cX2_fly 135 = .ok (.ireturn, 1) := by decide +kernel
set_option maxRecDepth 20000 in
theorem ggX2_land_X2_kiteAt : GoodIn wsX2_land wsX2_kiteAt := goodIn_ca (goodIn_r _ [8, 9, 10, 11, 12, 13, 7, 14, 32, 33, 34, 35, 36, 37, 38, 39, 40] (by decide +kernel) (by decide +kernel)) (goodIn_sub (fun _ h => List.mem_cons_of_mem _ (List.mem_append_right _ h)) (by decide +kernel))
set_option maxRecDepth 20000 in
theorem gX2_land_X2_kiteAt : GoodIn wsX2_land (wsV RX2 47 RX2 yX2_kiteAt wsX2_kiteAt) := goodIn_app (goodIn_of _ (by decide +kernel)) ggX2_land_X2_kiteAt
set_option maxRecDepth 20000 in
theorem ggX2_land_X2_isLane : GoodIn wsX2_land wsX2_isLane := goodIn_r _ [17, 12, 13, 7, 14] (by decide +kernel) (by decide +kernel)
set_option maxRecDepth 20000 in
theorem gX2_land_X2_isLane : GoodIn wsX2_land (va_wsS RX2 101 yX2_isLane wsX2_isLane) := goodIn_app (goodIn_of _ (by decide +kernel)) ggX2_land_X2_isLane
set_option maxRecDepth 20000 in
theorem ggX2_land_X2_clearLane : GoodIn wsX2_land wsX2_clearLane := goodIn_r _ [21, 22, 3, 15, 16, 7, 17, 12, 13, 14, 32, 33, 34, 35, 36, 37, 38, 39, 40, 23, 24, 25, 26, 27, 28, 29, 30, 31] (by decide +kernel) (by decide +kernel)
set_option maxRecDepth 20000 in
theorem gX2_land_X2_clearLane : GoodIn wsX2_land (wsV RX2 141 RX2 yX2_clearLane wsX2_clearLane) := goodIn_app (goodIn_of _ (by decide +kernel)) ggX2_land_X2_clearLane
theorem dX2_land_0 : decode cX2_land 0 = .ok (.aload_n 0, 1) := by decide +kernel
theorem dX2_land_1 : decode cX2_land 1 = .ok (.iload_n 1, 1) := by decide +kernel
theorem dX2_land_2 : decode cX2_land 2 = .ok (.invokevirtual 47, 3) := by decide +kernel
theorem dX2_land_5 : decode cX2_land 5 = .ok (.astore_n 2, 1) := by decide +kernel
theorem dX2_land_6 : decode cX2_land 6 = .ok (.aload_n 2, 1) := by decide +kernel
theorem dX2_land_7 : decode cX2_land 7 = .ok (.getfield 133, 3) := by decide +kernel
theorem dX2_land_10 : decode cX2_land 10 = .ok (.istore_n 3, 1) := by decide +kernel
theorem dX2_land_11 : decode cX2_land 11 = .ok (.iload_n 3, 1) := by decide +kernel
theorem dX2_land_12 : decode cX2_land 12 = .ok (.invokestatic 101, 3) := by decide +kernel
theorem dX2_land_15 : decode cX2_land 15 = .ok (.ifCond .ne 13, 3) := by decide +kernel
theorem dX2_land_18 : decode cX2_land 18 = .ok (.new 39, 3) := by decide +kernel
theorem dX2_land_21 : decode cX2_land 21 = .ok (.dup, 1) := by decide +kernel
theorem dX2_land_22 : decode cX2_land 22 = .ok (.ldc 139, 2) := by decide +kernel
theorem dX2_land_24 : decode cX2_land 24 = .ok (.invokespecial 43, 3) := by decide +kernel
theorem dX2_land_27 : decode cX2_land 27 = .ok (.athrow, 1) := by decide +kernel
theorem dX2_land_28 : decode cX2_land 28 = .ok (.aload_n 0, 1) := by decide +kernel
theorem dX2_land_29 : decode cX2_land 29 = .ok (.iload_n 3, 1) := by decide +kernel
theorem dX2_land_30 : decode cX2_land 30 = .ok (.invokevirtual 141, 3) := by decide +kernel
theorem dX2_land_33 : decode cX2_land 33 = .ok (.iload_n 3, 1) := by decide +kernel
theorem dX2_land_34 : decode cX2_land 34 = .ok (.ireturn, 1) := by decide +kernel
set_option maxRecDepth 20000 in
theorem ggX2_wind_X2_isSpeed : GoodIn wsX2_wind wsX2_isSpeed := goodIn_r _ [9, 10, 11, 8, 12] (by decide +kernel) (by decide +kernel)
set_option maxRecDepth 20000 in
theorem gX2_wind_X2_isSpeed : GoodIn wsX2_wind (va_wsS RX2 144 yX2_isSpeed wsX2_isSpeed) := goodIn_app (goodIn_of _ (by decide +kernel)) ggX2_wind_X2_isSpeed
set_option maxRecDepth 20000 in
theorem ggX2_wind_X2_isWithin : GoodIn wsX2_wind wsX2_isWithin := goodIn_r _ [12] (by decide +kernel) (by decide +kernel)
set_option maxRecDepth 20000 in
theorem gX2_wind_X2_isWithin : GoodIn wsX2_wind (va_wsS RX2 24 yX2_isWithin wsX2_isWithin) := goodIn_app (goodIn_of _ (by decide +kernel)) ggX2_wind_X2_isWithin
set_option maxRecDepth 20000 in
theorem ggX2_wind_X2_callDownUnheld : GoodIn wsX2_wind wsX2_callDownUnheld := goodIn_r _ [16, 17, 3, 18, 19, 20, 21, 22, 23, 24, 25, 26, 27, 28, 29, 30, 31, 32, 33, 34, 11, 8, 12, 35, 36, 37, 38, 39, 5, 40, 41, 42, 43, 44, 45, 46, 47, 10, 66, 67, 68, 69, 70, 71, 72, 73, 74, 75, 76, 77, 78, 79, 80, 81, 82, 83] (by decide +kernel) (by decide +kernel)
set_option maxRecDepth 20000 in
theorem gX2_wind_X2_callDownUnheld : GoodIn wsX2_wind (wsV RX2 152 RX2 yX2_callDownUnheld wsX2_callDownUnheld) := goodIn_app (goodIn_of _ (by decide +kernel)) ggX2_wind_X2_callDownUnheld
set_option maxRecDepth 20000 in
theorem ggX2_wind_X2_callDownCrossing : GoodIn wsX2_wind wsX2_callDownCrossing := goodIn_r _ [51, 52, 53, 54, 8, 55, 17, 3, 4, 56, 57, 58, 22, 59, 60, 61, 62, 63, 64, 65, 24, 25, 26, 27, 28, 29, 30, 31, 32, 33, 34, 35, 36, 37, 38, 39, 5, 40, 41, 42, 43, 44, 45, 46, 47, 10, 11, 12, 66, 67, 68, 69, 70, 71, 72, 73, 74, 75, 76, 77, 78, 79, 80, 81, 82, 83] (by decide +kernel) (by decide +kernel)
set_option maxRecDepth 20000 in
theorem gX2_wind_X2_callDownCrossing : GoodIn wsX2_wind (wsV RX2 155 RX2 yX2_callDownCrossing wsX2_callDownCrossing) := goodIn_app (goodIn_of _ (by decide +kernel)) ggX2_wind_X2_callDownCrossing
theorem dX2_wind_0 : decode cX2_wind 0 = .ok (.iload_n 1, 1) := by decide +kernel
theorem dX2_wind_1 : decode cX2_wind 1 = .ok (.invokestatic 144, 3) := by decide +kernel
theorem dX2_wind_4 : decode cX2_wind 4 = .ok (.ifCond .eq 13, 3) := by decide +kernel
theorem dX2_wind_7 : decode cX2_wind 7 = .ok (.iload_n 2, 1) := by decide +kernel
theorem dX2_wind_8 : decode cX2_wind 8 = .ok (.bipush (-5), 2) := by decide +kernel
theorem dX2_wind_10 : decode cX2_wind 10 = .ok (.iconst 5, 1) := by decide +kernel
theorem dX2_wind_11 : decode cX2_wind 11 = .ok (.invokestatic 24, 3) := by decide +kernel
theorem dX2_wind_14 : decode cX2_wind 14 = .ok (.ifCond .ne 13, 3) := by decide +kernel
theorem dX2_wind_17 : decode cX2_wind 17 = .ok (.new 28, 3) := by decide +kernel
theorem dX2_wind_20 : decode cX2_wind 20 = .ok (.dup, 1) := by decide +kernel
theorem dX2_wind_21 : decode cX2_wind 21 = .ok (.ldc 147, 2) := by decide +kernel
theorem dX2_wind_23 : decode cX2_wind 23 = .ok (.invokespecial 32, 3) := by decide +kernel
theorem dX2_wind_26 : decode cX2_wind 26 = .ok (.athrow, 1) := by decide +kernel
theorem dX2_wind_27 : decode cX2_wind 27 = .ok (.aload_n 0, 1) := by decide +kernel
theorem dX2_wind_28 : decode cX2_wind 28 = .ok (.iload_n 1, 1) := by decide +kernel
theorem dX2_wind_29 : decode cX2_wind 29 = .ok (.putfield 112, 3) := by decide +kernel
theorem dX2_wind_32 : decode cX2_wind 32 = .ok (.aload_n 0, 1) := by decide +kernel
theorem dX2_wind_33 : decode cX2_wind 33 = .ok (.iload_n 2, 1) := by decide +kernel
theorem dX2_wind_34 : decode cX2_wind 34 = .ok (.putfield 120, 3) := by decide +kernel
theorem dX2_wind_37 : decode cX2_wind 37 = .ok (.aload_n 0, 1) := by decide +kernel
theorem dX2_wind_38 : decode cX2_wind 38 = .ok (.getfield 149, 3) := by decide +kernel
theorem dX2_wind_41 : decode cX2_wind 41 = .ok (.istore_n 3, 1) := by decide +kernel
theorem dX2_wind_42 : decode cX2_wind 42 = .ok (.aload_n 0, 1) := by decide +kernel
theorem dX2_wind_43 : decode cX2_wind 43 = .ok (.invokevirtual 152, 3) := by decide +kernel
theorem dX2_wind_46 : decode cX2_wind 46 = .ok (.aload_n 0, 1) := by decide +kernel
theorem dX2_wind_47 : decode cX2_wind 47 = .ok (.invokevirtual 155, 3) := by decide +kernel
theorem dX2_wind_50 : decode cX2_wind 50 = .ok (.aload_n 0, 1) := by decide +kernel
theorem dX2_wind_51 : decode cX2_wind 51 = .ok (.getfield 149, 3) := by decide +kernel
theorem dX2_wind_54 : decode cX2_wind 54 = .ok (.iload_n 3, 1) := by decide +kernel
theorem dX2_wind_55 : decode cX2_wind 55 = .ok (.isub, 1) := by decide +kernel
theorem dX2_wind_56 : decode cX2_wind 56 = .ok (.ireturn, 1) := by decide +kernel
theorem dX2_rain_0 : decode cX2_rain 0 = .ok (.aload_n 0, 1) := by decide +kernel
theorem dX2_rain_1 : decode cX2_rain 1 = .ok (.getfield 158, 3) := by decide +kernel
theorem dX2_rain_4 : decode cX2_rain 4 = .ok (.istore_n 2, 1) := by decide +kernel
theorem dX2_rain_5 : decode cX2_rain 5 = .ok (.aload_n 0, 1) := by decide +kernel
theorem dX2_rain_6 : decode cX2_rain 6 = .ok (.iload_n 1, 1) := by decide +kernel
theorem dX2_rain_7 : decode cX2_rain 7 = .ok (.putfield 158, 3) := by decide +kernel
theorem dX2_rain_10 : decode cX2_rain 10 = .ok (.iload_n 2, 1) := by decide +kernel
theorem dX2_rain_11 : decode cX2_rain 11 = .ok (.ireturn, 1) := by decide +kernel
set_option maxRecDepth 20000 in
theorem ggX2_pass_X2_isWithin : GoodIn wsX2_pass wsX2_isWithin := goodIn_r _ [6] (by decide +kernel) (by decide +kernel)
set_option maxRecDepth 20000 in
theorem gX2_pass_X2_isWithin : GoodIn wsX2_pass (va_wsS RX2 24 yX2_isWithin wsX2_isWithin) := goodIn_app (goodIn_of _ (by decide +kernel)) ggX2_pass_X2_isWithin
set_option maxRecDepth 20000 in
theorem ggX2_pass_X2_spendHour : GoodIn wsX2_pass wsX2_spendHour := goodIn_r _ [10, 11, 12, 13, 14, 15, 16, 17, 18, 19, 20, 21, 22, 23, 29, 30, 31, 32, 33, 34, 35, 36, 37, 38, 39, 40, 41, 42, 43, 44, 45, 46] (by decide +kernel) (by decide +kernel)
set_option maxRecDepth 20000 in
theorem gX2_pass_X2_spendHour : GoodIn wsX2_pass (wsV RX2 163 RX2 yX2_spendHour wsX2_spendHour) := goodIn_app (goodIn_of _ (by decide +kernel)) ggX2_pass_X2_spendHour
set_option maxRecDepth 20000 in
theorem ggX2_pass_X2_countWet : GoodIn wsX2_pass wsX2_countWet := goodIn_r _ [27, 11, 28, 29, 30, 31, 32, 33, 34, 35, 36, 37, 38, 39, 40, 41, 42, 43, 44, 45, 46] (by decide +kernel) (by decide +kernel)
set_option maxRecDepth 20000 in
theorem gX2_pass_X2_countWet : GoodIn wsX2_pass (wsV RX2 166 RX2 yX2_countWet wsX2_countWet) := goodIn_app (goodIn_of _ (by decide +kernel)) ggX2_pass_X2_countWet
theorem dX2_pass_0 : decode cX2_pass 0 = .ok (.iload_n 1, 1) := by decide +kernel
theorem dX2_pass_1 : decode cX2_pass 1 = .ok (.iconst 1, 1) := by decide +kernel
theorem dX2_pass_2 : decode cX2_pass 2 = .ok (.bipush 24, 2) := by decide +kernel
theorem dX2_pass_4 : decode cX2_pass 4 = .ok (.invokestatic 24, 3) := by decide +kernel
theorem dX2_pass_7 : decode cX2_pass 7 = .ok (.ifCond .ne 13, 3) := by decide +kernel
theorem dX2_pass_10 : decode cX2_pass 10 = .ok (.new 28, 3) := by decide +kernel
theorem dX2_pass_13 : decode cX2_pass 13 = .ok (.dup, 1) := by decide +kernel
theorem dX2_pass_14 : decode cX2_pass 14 = .ok (.ldc 161, 2) := by decide +kernel
theorem dX2_pass_16 : decode cX2_pass 16 = .ok (.invokespecial 32, 3) := by decide +kernel
theorem dX2_pass_19 : decode cX2_pass 19 = .ok (.athrow, 1) := by decide +kernel
theorem dX2_pass_20 : decode cX2_pass 20 = .ok (.iconst 0, 1) := by decide +kernel
theorem dX2_pass_21 : decode cX2_pass 21 = .ok (.istore_n 2, 1) := by decide +kernel
theorem dX2_pass_22 : decode cX2_pass 22 = .ok (.iload_n 2, 1) := by decide +kernel
theorem dX2_pass_23 : decode cX2_pass 23 = .ok (.iload_n 1, 1) := by decide +kernel
theorem dX2_pass_24 : decode cX2_pass 24 = .ok (.if_icmp .ge 13, 3) := by decide +kernel
theorem dX2_pass_27 : decode cX2_pass 27 = .ok (.aload_n 0, 1) := by decide +kernel
theorem dX2_pass_28 : decode cX2_pass 28 = .ok (.invokevirtual 163, 3) := by decide +kernel
theorem dX2_pass_31 : decode cX2_pass 31 = .ok (.iinc 2 1, 3) := by decide +kernel
theorem dX2_pass_34 : decode cX2_pass 34 = .ok (.goto (-12), 3) := by decide +kernel
theorem dX2_pass_37 : decode cX2_pass 37 = .ok (.aload_n 0, 1) := by decide +kernel
theorem dX2_pass_38 : decode cX2_pass 38 = .ok (.invokevirtual 166, 3) := by decide +kernel
theorem dX2_pass_41 : decode cX2_pass 41 = .ok (.ireturn, 1) := by decide +kernel
set_option maxRecDepth 20000 in
theorem ggX2_pull_X2_kiteAt : GoodIn wsX2_pull wsX2_kiteAt := goodIn_ca (goodIn_r _ [7, 8, 9, 10, 11, 12, 6, 13, 29, 30, 31, 32, 33, 34, 35, 36, 37] (by decide +kernel) (by decide +kernel)) (goodIn_sub (fun _ h => List.mem_cons_of_mem _ (List.mem_append_right _ h)) (by decide +kernel))
set_option maxRecDepth 20000 in
theorem gX2_pull_X2_kiteAt : GoodIn wsX2_pull (wsV RX2 47 RX2 yX2_kiteAt wsX2_kiteAt) := goodIn_app (goodIn_of _ (by decide +kernel)) ggX2_pull_X2_kiteAt
set_option maxRecDepth 20000 in
theorem ggX2_pull_X2_isSpeed : GoodIn wsX2_pull wsX2_isSpeed := goodIn_r _ [16, 11, 12, 6, 13] (by decide +kernel) (by decide +kernel)
set_option maxRecDepth 20000 in
theorem gX2_pull_X2_isSpeed : GoodIn wsX2_pull (va_wsS RX2 144 yX2_isSpeed wsX2_isSpeed) := goodIn_app (goodIn_of _ (by decide +kernel)) ggX2_pull_X2_isSpeed
set_option maxRecDepth 20000 in
theorem ggX2_pull_X1_pullIn : GoodIn wsX2_pull wsX1_pullIn := goodIn_r _ [21, 22, 23, 24, 25, 20, 26, 27, 28, 38, 39, 40, 41, 42, 43, 44, 45, 46] (by decide +kernel) (by decide +kernel)
set_option maxRecDepth 20000 in
theorem gX2_pull_X1_pullIn : GoodIn wsX2_pull (wsV RX2 172 RX1 yX1_pullIn wsX1_pullIn) := goodIn_app (goodIn_of _ (by decide +kernel)) ggX2_pull_X1_pullIn
theorem dX2_pull_0 : decode cX2_pull 0 = .ok (.aload_n 0, 1) := by decide +kernel
theorem dX2_pull_1 : decode cX2_pull 1 = .ok (.iload_n 1, 1) := by decide +kernel
theorem dX2_pull_2 : decode cX2_pull 2 = .ok (.invokevirtual 47, 3) := by decide +kernel
theorem dX2_pull_5 : decode cX2_pull 5 = .ok (.astore_n 3, 1) := by decide +kernel
theorem dX2_pull_6 : decode cX2_pull 6 = .ok (.iload_n 2, 1) := by decide +kernel
theorem dX2_pull_7 : decode cX2_pull 7 = .ok (.invokestatic 144, 3) := by decide +kernel
theorem dX2_pull_10 : decode cX2_pull 10 = .ok (.ifCond .ne 13, 3) := by decide +kernel
theorem dX2_pull_13 : decode cX2_pull 13 = .ok (.new 28, 3) := by decide +kernel
theorem dX2_pull_16 : decode cX2_pull 16 = .ok (.dup, 1) := by decide +kernel
theorem dX2_pull_17 : decode cX2_pull 17 = .ok (.ldc 170, 2) := by decide +kernel
theorem dX2_pull_19 : decode cX2_pull 19 = .ok (.invokespecial 32, 3) := by decide +kernel
theorem dX2_pull_22 : decode cX2_pull 22 = .ok (.athrow, 1) := by decide +kernel
theorem dX2_pull_23 : decode cX2_pull 23 = .ok (.aload_n 3, 1) := by decide +kernel
theorem dX2_pull_24 : decode cX2_pull 24 = .ok (.iload_n 2, 1) := by decide +kernel
theorem dX2_pull_25 : decode cX2_pull 25 = .ok (.invokevirtual 172, 3) := by decide +kernel
theorem dX2_pull_28 : decode cX2_pull 28 = .ok (.ireturn, 1) := by decide +kernel
set_option maxRecDepth 20000 in
theorem ggX2_pullAnew_X2_kiteAt : GoodIn wsX2_pullAnew wsX2_kiteAt := goodIn_ca (goodIn_r _ [7, 8, 9, 10, 11, 12, 6, 13, 29, 30, 31, 32, 33, 34, 35, 36, 37] (by decide +kernel) (by decide +kernel)) (goodIn_sub (fun _ h => List.mem_cons_of_mem _ (List.mem_append_right _ h)) (by decide +kernel))
set_option maxRecDepth 20000 in
theorem gX2_pullAnew_X2_kiteAt : GoodIn wsX2_pullAnew (wsV RX2 47 RX2 yX2_kiteAt wsX2_kiteAt) := goodIn_app (goodIn_of _ (by decide +kernel)) ggX2_pullAnew_X2_kiteAt
set_option maxRecDepth 20000 in
theorem ggX2_pullAnew_X2_isSpeed : GoodIn wsX2_pullAnew wsX2_isSpeed := goodIn_r _ [16, 11, 12, 6, 13] (by decide +kernel) (by decide +kernel)
set_option maxRecDepth 20000 in
theorem gX2_pullAnew_X2_isSpeed : GoodIn wsX2_pullAnew (va_wsS RX2 144 yX2_isSpeed wsX2_isSpeed) := goodIn_app (goodIn_of _ (by decide +kernel)) ggX2_pullAnew_X2_isSpeed
set_option maxRecDepth 20000 in
theorem ggX2_pullAnew_X1_pullByStepsTo : GoodIn wsX2_pullAnew wsX1_pullByStepsTo := goodIn_r _ [21, 22, 23, 24, 25, 20, 26, 27, 28, 38, 39, 40, 41, 42, 43, 44, 45, 46] (by decide +kernel) (by decide +kernel)
set_option maxRecDepth 20000 in
theorem gX2_pullAnew_X1_pullByStepsTo : GoodIn wsX2_pullAnew (wsV RX2 176 RX1 yX1_pullByStepsTo wsX1_pullByStepsTo) := goodIn_app (goodIn_of _ (by decide +kernel)) ggX2_pullAnew_X1_pullByStepsTo
theorem dX2_pullAnew_0 : decode cX2_pullAnew 0 = .ok (.aload_n 0, 1) := by decide +kernel
theorem dX2_pullAnew_1 : decode cX2_pullAnew 1 = .ok (.iload_n 1, 1) := by decide +kernel
theorem dX2_pullAnew_2 : decode cX2_pullAnew 2 = .ok (.invokevirtual 47, 3) := by decide +kernel
theorem dX2_pullAnew_5 : decode cX2_pullAnew 5 = .ok (.astore_n 3, 1) := by decide +kernel
theorem dX2_pullAnew_6 : decode cX2_pullAnew 6 = .ok (.iload_n 2, 1) := by decide +kernel
theorem dX2_pullAnew_7 : decode cX2_pullAnew 7 = .ok (.invokestatic 144, 3) := by decide +kernel
theorem dX2_pullAnew_10 : decode cX2_pullAnew 10 = .ok (.ifCond .ne 13, 3) := by decide +kernel
theorem dX2_pullAnew_13 : decode cX2_pullAnew 13 = .ok (.new 28, 3) := by decide +kernel
theorem dX2_pullAnew_16 : decode cX2_pullAnew 16 = .ok (.dup, 1) := by decide +kernel
theorem dX2_pullAnew_17 : decode cX2_pullAnew 17 = .ok (.ldc 170, 2) := by decide +kernel
theorem dX2_pullAnew_19 : decode cX2_pullAnew 19 = .ok (.invokespecial 32, 3) := by decide +kernel
theorem dX2_pullAnew_22 : decode cX2_pullAnew 22 = .ok (.athrow, 1) := by decide +kernel
theorem dX2_pullAnew_23 : decode cX2_pullAnew 23 = .ok (.aload_n 3, 1) := by decide +kernel
theorem dX2_pullAnew_24 : decode cX2_pullAnew 24 = .ok (.iload_n 2, 1) := by decide +kernel
theorem dX2_pullAnew_25 : decode cX2_pullAnew 25 = .ok (.invokevirtual 176, 3) := by decide +kernel
theorem dX2_pullAnew_28 : decode cX2_pullAnew 28 = .ok (.ireturn, 1) := by decide +kernel
set_option maxRecDepth 20000 in
theorem ggX2_window_X2_kiteAt : GoodIn wsX2_window wsX2_kiteAt := goodIn_ca (goodIn_r _ [5, 6, 7, 8, 9, 10, 4, 11, 28, 29, 30, 31, 32, 33, 34, 35, 36] (by decide +kernel) (by decide +kernel)) (goodIn_sub (fun _ h => List.mem_cons_of_mem _ (List.mem_append_right _ h)) (by decide +kernel))
set_option maxRecDepth 20000 in
theorem gX2_window_X2_kiteAt : GoodIn wsX2_window (wsV RX2 47 RX2 yX2_kiteAt wsX2_kiteAt) := goodIn_app (goodIn_of _ (by decide +kernel)) ggX2_window_X2_kiteAt
set_option maxRecDepth 20000 in
theorem ggX2_window_X1_holdsIn : GoodIn wsX2_window wsX1_holdsIn := goodIn_r _ [16, 17, 18, 19, 15, 20, 21, 22, 23, 24, 25, 26, 27, 10, 4, 11, 37, 38, 39, 40, 41, 42, 43, 44, 45] (by decide +kernel) (by decide +kernel)
set_option maxRecDepth 20000 in
theorem gX2_window_X1_holdsIn : GoodIn wsX2_window (wsV RX2 187 RX1 yX1_holdsIn wsX1_holdsIn) := goodIn_app (goodIn_of _ (by decide +kernel)) ggX2_window_X1_holdsIn
theorem dX2_window_0 : decode cX2_window 0 = .ok (.aload_n 0, 1) := by decide +kernel
theorem dX2_window_1 : decode cX2_window 1 = .ok (.iload_n 1, 1) := by decide +kernel
theorem dX2_window_2 : decode cX2_window 2 = .ok (.invokevirtual 47, 3) := by decide +kernel
theorem dX2_window_5 : decode cX2_window 5 = .ok (.astore_n 3, 1) := by decide +kernel
theorem dX2_window_6 : decode cX2_window 6 = .ok (.iconst 0, 1) := by decide +kernel
theorem dX2_window_7 : decode cX2_window 7 = .ok (.istore 4, 2) := by decide +kernel
theorem dX2_window_9 : decode cX2_window 9 = .ok (.iload 4, 2) := by decide +kernel
theorem dX2_window_11 : decode cX2_window 11 = .ok (.bipush 30, 2) := by decide +kernel
theorem dX2_window_13 : decode cX2_window 13 = .ok (.if_icmp .gt 37, 3) := by decide +kernel
theorem dX2_window_16 : decode cX2_window 16 = .ok (.iload_n 2, 1) := by decide +kernel
theorem dX2_window_17 : decode cX2_window 17 = .ok (.ifCond .eq 11, 3) := by decide +kernel
theorem dX2_window_20 : decode cX2_window 20 = .ok (.bipush 30, 2) := by decide +kernel
theorem dX2_window_22 : decode cX2_window 22 = .ok (.iload 4, 2) := by decide +kernel
theorem dX2_window_24 : decode cX2_window 24 = .ok (.isub, 1) := by decide +kernel
theorem dX2_window_25 : decode cX2_window 25 = .ok (.goto 5, 3) := by decide +kernel
theorem dX2_window_28 : decode cX2_window 28 = .ok (.iload 4, 2) := by decide +kernel
theorem dX2_window_30 : decode cX2_window 30 = .ok (.istore 5, 2) := by decide +kernel
theorem dX2_window_32 : decode cX2_window 32 = .ok (.aload_n 3, 1) := by decide +kernel
theorem dX2_window_33 : decode cX2_window 33 = .ok (.iload 5, 2) := by decide +kernel
theorem dX2_window_35 : decode cX2_window 35 = .ok (.invokevirtual 187, 3) := by decide +kernel
theorem dX2_window_38 : decode cX2_window 38 = .ok (.ifCond .eq 6, 3) := by decide +kernel
theorem dX2_window_41 : decode cX2_window 41 = .ok (.iload 5, 2) := by decide +kernel
theorem dX2_window_43 : decode cX2_window 43 = .ok (.ireturn, 1) := by decide +kernel
theorem dX2_window_44 : decode cX2_window 44 = .ok (.iinc 4 1, 3) := by decide +kernel
theorem dX2_window_47 : decode cX2_window 47 = .ok (.goto (-38), 3) := by decide +kernel
theorem dX2_window_50 : decode cX2_window 50 = .ok (.iconst (-1), 1) := by decide +kernel
theorem dX2_window_51 : decode cX2_window 51 = .ok (.ireturn, 1) := by decide +kernel
set_option maxRecDepth 20000 in
theorem ggX2_about_X2_kiteAt : GoodIn wsX2_about wsX2_kiteAt := goodIn_ca (goodIn_r _ [14, 15, 16, 17, 18, 19, 13, 20, 56, 57, 58, 59, 60, 61, 62, 63, 64] (by decide +kernel) (by decide +kernel)) (goodIn_sub (fun _ h => List.mem_cons_of_mem _ (List.mem_append_right _ h)) (by decide +kernel))
set_option maxRecDepth 20000 in
theorem gX2_about_X2_kiteAt : GoodIn wsX2_about (wsV RX2 47 RX2 yX2_kiteAt wsX2_kiteAt) := goodIn_app (goodIn_of _ (by decide +kernel)) ggX2_about_X2_kiteAt
set_option maxRecDepth 20000 in
theorem ggX2_about_X1_isFlying : GoodIn wsX2_about wsX1_isFlying := goodIn_r _ [25, 26, 47, 48, 49, 50, 51, 52, 53, 54, 55] (by decide +kernel) (by decide +kernel)
set_option maxRecDepth 20000 in
theorem gX2_about_X1_isFlying : GoodIn wsX2_about (wsV RX2 93 RX1 yX1_isFlying wsX1_isFlying) := goodIn_app (goodIn_of _ (by decide +kernel)) ggX2_about_X1_isFlying
set_option maxRecDepth 20000 in
theorem ggX2_about_X1_endIn : GoodIn wsX2_about wsX1_endIn := goodIn_r _ [30, 26, 31, 32, 33, 34, 24, 35, 36, 37, 38, 39, 40, 41, 42, 43, 44, 45, 46, 47, 48, 49, 50, 51, 52, 53, 54, 55] (by decide +kernel) (by decide +kernel)
set_option maxRecDepth 20000 in
theorem gX2_about_X1_endIn : GoodIn wsX2_about (wsV RX2 193 RX1 yX1_endIn wsX1_endIn) := goodIn_app (goodIn_of _ (by decide +kernel)) ggX2_about_X1_endIn
theorem dX2_about_0 : decode cX2_about 0 = .ok (.aload_n 0, 1) := by decide +kernel
theorem dX2_about_1 : decode cX2_about 1 = .ok (.iload_n 1, 1) := by decide +kernel
theorem dX2_about_2 : decode cX2_about 2 = .ok (.invokevirtual 47, 3) := by decide +kernel
theorem dX2_about_5 : decode cX2_about 5 = .ok (.astore_n 3, 1) := by decide +kernel
theorem dX2_about_6 : decode cX2_about 6 = .ok (.iload_n 2, 1) := by decide +kernel
theorem dX2_about_7 : decode cX2_about 7 = .ok (.tableswitch 94 0 5 #[37, 42, 55, 60, 65, 70], 37) := by decide +kernel
theorem dX2_about_44 : decode cX2_about 44 = .ok (.aload_n 3, 1) := by decide +kernel
theorem dX2_about_45 : decode cX2_about 45 = .ok (.getfield 57, 3) := by decide +kernel
theorem dX2_about_48 : decode cX2_about 48 = .ok (.ireturn, 1) := by decide +kernel
theorem dX2_about_49 : decode cX2_about 49 = .ok (.aload_n 3, 1) := by decide +kernel
theorem dX2_about_50 : decode cX2_about 50 = .ok (.getfield 51, 3) := by decide +kernel
theorem dX2_about_53 : decode cX2_about 53 = .ok (.ifCond .eq 7, 3) := by decide +kernel
theorem dX2_about_56 : decode cX2_about 56 = .ok (.iconst 1, 1) := by decide +kernel
theorem dX2_about_57 : decode cX2_about 57 = .ok (.goto 4, 3) := by decide +kernel
theorem dX2_about_60 : decode cX2_about 60 = .ok (.iconst 0, 1) := by decide +kernel
theorem dX2_about_61 : decode cX2_about 61 = .ok (.ireturn, 1) := by decide +kernel
theorem dX2_about_62 : decode cX2_about 62 = .ok (.aload_n 3, 1) := by decide +kernel
theorem dX2_about_63 : decode cX2_about 63 = .ok (.getfield 190, 3) := by decide +kernel
theorem dX2_about_66 : decode cX2_about 66 = .ok (.ireturn, 1) := by decide +kernel
theorem dX2_about_67 : decode cX2_about 67 = .ok (.aload_n 3, 1) := by decide +kernel
theorem dX2_about_68 : decode cX2_about 68 = .ok (.getfield 86, 3) := by decide +kernel
theorem dX2_about_71 : decode cX2_about 71 = .ok (.ireturn, 1) := by decide +kernel
theorem dX2_about_72 : decode cX2_about 72 = .ok (.aload_n 3, 1) := by decide +kernel
theorem dX2_about_73 : decode cX2_about 73 = .ok (.getfield 133, 3) := by decide +kernel
theorem dX2_about_76 : decode cX2_about 76 = .ok (.ireturn, 1) := by decide +kernel
theorem dX2_about_77 : decode cX2_about 77 = .ok (.aload_n 3, 1) := by decide +kernel
theorem dX2_about_78 : decode cX2_about 78 = .ok (.invokevirtual 93, 3) := by decide +kernel
theorem dX2_about_81 : decode cX2_about 81 = .ok (.ifCond .eq 18, 3) := by decide +kernel
theorem dX2_about_84 : decode cX2_about 84 = .ok (.aload_n 3, 1) := by decide +kernel
theorem dX2_about_85 : decode cX2_about 85 = .ok (.aload_n 0, 1) := by decide +kernel
theorem dX2_about_86 : decode cX2_about 86 = .ok (.getfield 112, 3) := by decide +kernel
theorem dX2_about_89 : decode cX2_about 89 = .ok (.aload_n 0, 1) := by decide +kernel
theorem dX2_about_90 : decode cX2_about 90 = .ok (.getfield 120, 3) := by decide +kernel
theorem dX2_about_93 : decode cX2_about 93 = .ok (.invokevirtual 193, 3) := by decide +kernel
theorem dX2_about_96 : decode cX2_about 96 = .ok (.goto 4, 3) := by decide +kernel
theorem dX2_about_99 : decode cX2_about 99 = .ok (.iconst (-1), 1) := by decide +kernel
theorem dX2_about_100 : decode cX2_about 100 = .ok (.ireturn, 1) := by decide +kernel
theorem dX2_about_101 : decode cX2_about 101 = .ok (.new 28, 3) := by decide +kernel
theorem dX2_about_104 : decode cX2_about 104 = .ok (.dup, 1) := by decide +kernel
theorem dX2_about_105 : decode cX2_about 105 = .ok (.ldc 197, 2) := by decide +kernel
theorem dX2_about_107 : decode cX2_about 107 = .ok (.invokespecial 32, 3) := by decide +kernel
theorem dX2_about_110 : decode cX2_about 110 = .ok (.athrow, 1) := by decide +kernel
set_option maxRecDepth 20000 in
theorem ggX2_lane_X2_isLane : GoodIn wsX2_lane wsX2_isLane := goodIn_r _ [8, 9, 10, 7, 11] (by decide +kernel) (by decide +kernel)
set_option maxRecDepth 20000 in
theorem gX2_lane_X2_isLane : GoodIn wsX2_lane (va_wsS RX2 101 yX2_isLane wsX2_isLane) := goodIn_app (goodIn_of _ (by decide +kernel)) ggX2_lane_X2_isLane
theorem dX2_lane_0 : decode cX2_lane 0 = .ok (.iload_n 1, 1) := by decide +kernel
theorem dX2_lane_1 : decode cX2_lane 1 = .ok (.invokestatic 101, 3) := by decide +kernel
theorem dX2_lane_4 : decode cX2_lane 4 = .ok (.ifCond .ne 13, 3) := by decide +kernel
theorem dX2_lane_7 : decode cX2_lane 7 = .ok (.new 105, 3) := by decide +kernel
theorem dX2_lane_10 : decode cX2_lane 10 = .ok (.dup, 1) := by decide +kernel
theorem dX2_lane_11 : decode cX2_lane 11 = .ok (.ldc 107, 2) := by decide +kernel
theorem dX2_lane_13 : decode cX2_lane 13 = .ok (.invokespecial 109, 3) := by decide +kernel
theorem dX2_lane_16 : decode cX2_lane 16 = .ok (.athrow, 1) := by decide +kernel
theorem dX2_lane_17 : decode cX2_lane 17 = .ok (.aload_n 0, 1) := by decide +kernel
theorem dX2_lane_18 : decode cX2_lane 18 = .ok (.getfield 21, 3) := by decide +kernel
theorem dX2_lane_21 : decode cX2_lane 21 = .ok (.iload_n 1, 1) := by decide +kernel
theorem dX2_lane_22 : decode cX2_lane 22 = .ok (.aaload, 1) := by decide +kernel
theorem dX2_lane_23 : decode cX2_lane 23 = .ok (.astore_n 2, 1) := by decide +kernel
theorem dX2_lane_24 : decode cX2_lane 24 = .ok (.aload_n 2, 1) := by decide +kernel
theorem dX2_lane_25 : decode cX2_lane 25 = .ok (.ifnonnull 7, 3) := by decide +kernel
theorem dX2_lane_28 : decode cX2_lane 28 = .ok (.iconst (-1), 1) := by decide +kernel
theorem dX2_lane_29 : decode cX2_lane 29 = .ok (.goto 7, 3) := by decide +kernel
theorem dX2_lane_32 : decode cX2_lane 32 = .ok (.aload_n 2, 1) := by decide +kernel
theorem dX2_lane_33 : decode cX2_lane 33 = .ok (.getfield 98, 3) := by decide +kernel
theorem dX2_lane_36 : decode cX2_lane 36 = .ok (.ireturn, 1) := by decide +kernel
theorem dX2_called_0 : decode cX2_called 0 = .ok (.aload_n 0, 1) := by decide +kernel
theorem dX2_called_1 : decode cX2_called 1 = .ok (.getfield 149, 3) := by decide +kernel
theorem dX2_called_4 : decode cX2_called 4 = .ok (.ireturn, 1) := by decide +kernel
theorem dX2_isWithin_0 : decode cX2_isWithin 0 = .ok (.iload_n 0, 1) := by decide +kernel
theorem dX2_isWithin_1 : decode cX2_isWithin 1 = .ok (.iload_n 1, 1) := by decide +kernel
theorem dX2_isWithin_2 : decode cX2_isWithin 2 = .ok (.if_icmp .lt 12, 3) := by decide +kernel
theorem dX2_isWithin_5 : decode cX2_isWithin 5 = .ok (.iload_n 0, 1) := by decide +kernel
theorem dX2_isWithin_6 : decode cX2_isWithin 6 = .ok (.iload_n 2, 1) := by decide +kernel
theorem dX2_isWithin_7 : decode cX2_isWithin 7 = .ok (.if_icmp .gt 7, 3) := by decide +kernel
theorem dX2_isWithin_10 : decode cX2_isWithin 10 = .ok (.iconst 1, 1) := by decide +kernel
theorem dX2_isWithin_11 : decode cX2_isWithin 11 = .ok (.goto 4, 3) := by decide +kernel
theorem dX2_isWithin_14 : decode cX2_isWithin 14 = .ok (.iconst 0, 1) := by decide +kernel
theorem dX2_isWithin_15 : decode cX2_isWithin 15 = .ok (.ireturn, 1) := by decide +kernel
set_option maxRecDepth 20000 in
theorem ggX2_isSpeed_X2_isWithin : GoodIn wsX2_isSpeed wsX2_isWithin := goodIn_r _ [4] (by decide +kernel) (by decide +kernel)
set_option maxRecDepth 20000 in
theorem gX2_isSpeed_X2_isWithin : GoodIn wsX2_isSpeed (va_wsS RX2 24 yX2_isWithin wsX2_isWithin) := goodIn_app (goodIn_of _ (by decide +kernel)) ggX2_isSpeed_X2_isWithin
theorem dX2_isSpeed_0 : decode cX2_isSpeed 0 = .ok (.iload_n 0, 1) := by decide +kernel
theorem dX2_isSpeed_1 : decode cX2_isSpeed 1 = .ok (.iconst 0, 1) := by decide +kernel
theorem dX2_isSpeed_2 : decode cX2_isSpeed 2 = .ok (.bipush 30, 2) := by decide +kernel
theorem dX2_isSpeed_4 : decode cX2_isSpeed 4 = .ok (.invokestatic 24, 3) := by decide +kernel
theorem dX2_isSpeed_7 : decode cX2_isSpeed 7 = .ok (.ireturn, 1) := by decide +kernel
set_option maxRecDepth 20000 in
theorem ggX2_isLane_X2_isWithin : GoodIn wsX2_isLane wsX2_isWithin := goodIn_r _ [4] (by decide +kernel) (by decide +kernel)
set_option maxRecDepth 20000 in
theorem gX2_isLane_X2_isWithin : GoodIn wsX2_isLane (va_wsS RX2 24 yX2_isWithin wsX2_isWithin) := goodIn_app (goodIn_of _ (by decide +kernel)) ggX2_isLane_X2_isWithin
theorem dX2_isLane_0 : decode cX2_isLane 0 = .ok (.iload_n 0, 1) := by decide +kernel
theorem dX2_isLane_1 : decode cX2_isLane 1 = .ok (.iconst 0, 1) := by decide +kernel
theorem dX2_isLane_2 : decode cX2_isLane 2 = .ok (.bipush 9, 2) := by decide +kernel
theorem dX2_isLane_4 : decode cX2_isLane 4 = .ok (.invokestatic 24, 3) := by decide +kernel
theorem dX2_isLane_7 : decode cX2_isLane 7 = .ok (.ireturn, 1) := by decide +kernel
set_option maxRecDepth 20000 in
theorem ggX2_kiteAt_X2_isWithin : GoodIn wsX2_kiteAt wsX2_isWithin := goodIn_r _ [7] (by decide +kernel) (by decide +kernel)
set_option maxRecDepth 20000 in
theorem gX2_kiteAt_X2_isWithin : GoodIn wsX2_kiteAt (va_wsS RX2 24 yX2_isWithin wsX2_isWithin) := goodIn_app (goodIn_of _ (by decide +kernel)) ggX2_kiteAt_X2_isWithin
theorem dX2_kiteAt_0 : decode cX2_kiteAt 0 = .ok (.iload_n 1, 1) := by decide +kernel
theorem dX2_kiteAt_1 : decode cX2_kiteAt 1 = .ok (.iconst 0, 1) := by decide +kernel
theorem dX2_kiteAt_2 : decode cX2_kiteAt 2 = .ok (.bipush 7, 2) := by decide +kernel
theorem dX2_kiteAt_4 : decode cX2_kiteAt 4 = .ok (.invokestatic 24, 3) := by decide +kernel
theorem dX2_kiteAt_7 : decode cX2_kiteAt 7 = .ok (.ifCond .eq 12, 3) := by decide +kernel
theorem dX2_kiteAt_10 : decode cX2_kiteAt 10 = .ok (.aload_n 0, 1) := by decide +kernel
theorem dX2_kiteAt_11 : decode cX2_kiteAt 11 = .ok (.getfield 11, 3) := by decide +kernel
theorem dX2_kiteAt_14 : decode cX2_kiteAt 14 = .ok (.iload_n 1, 1) := by decide +kernel
theorem dX2_kiteAt_15 : decode cX2_kiteAt 15 = .ok (.aaload, 1) := by decide +kernel
theorem dX2_kiteAt_16 : decode cX2_kiteAt 16 = .ok (.goto 4, 3) := by decide +kernel
theorem dX2_kiteAt_19 : decode cX2_kiteAt 19 = .ok (.aconst_null, 1) := by decide +kernel
theorem dX2_kiteAt_20 : decode cX2_kiteAt 20 = .ok (.astore_n 2, 1) := by decide +kernel
theorem dX2_kiteAt_21 : decode cX2_kiteAt 21 = .ok (.aload_n 2, 1) := by decide +kernel
theorem dX2_kiteAt_22 : decode cX2_kiteAt 22 = .ok (.ifnonnull 13, 3) := by decide +kernel
theorem dX2_kiteAt_25 : decode cX2_kiteAt 25 = .ok (.new 105, 3) := by decide +kernel
theorem dX2_kiteAt_28 : decode cX2_kiteAt 28 = .ok (.dup, 1) := by decide +kernel
theorem dX2_kiteAt_29 : decode cX2_kiteAt 29 = .ok (.ldc 199, 2) := by decide +kernel
theorem dX2_kiteAt_31 : decode cX2_kiteAt 31 = .ok (.invokespecial 109, 3) := by decide +kernel
theorem dX2_kiteAt_34 : decode cX2_kiteAt 34 = .ok (.athrow, 1) := by decide +kernel
theorem dX2_kiteAt_35 : decode cX2_kiteAt 35 = .ok (.aload_n 2, 1) := by decide +kernel
theorem dX2_kiteAt_36 : decode cX2_kiteAt 36 = .ok (.areturn, 1) := by decide +kernel
set_option maxRecDepth 20000 in
theorem ggX2_borrowerAt_X2_isWithin : GoodIn wsX2_borrowerAt wsX2_isWithin := goodIn_r _ [7] (by decide +kernel) (by decide +kernel)
set_option maxRecDepth 20000 in
theorem gX2_borrowerAt_X2_isWithin : GoodIn wsX2_borrowerAt (va_wsS RX2 24 yX2_isWithin wsX2_isWithin) := goodIn_app (goodIn_of _ (by decide +kernel)) ggX2_borrowerAt_X2_isWithin
theorem dX2_borrowerAt_0 : decode cX2_borrowerAt 0 = .ok (.iload_n 1, 1) := by decide +kernel
theorem dX2_borrowerAt_1 : decode cX2_borrowerAt 1 = .ok (.iconst 0, 1) := by decide +kernel
theorem dX2_borrowerAt_2 : decode cX2_borrowerAt 2 = .ok (.bipush 7, 2) := by decide +kernel
theorem dX2_borrowerAt_4 : decode cX2_borrowerAt 4 = .ok (.invokestatic 24, 3) := by decide +kernel
theorem dX2_borrowerAt_7 : decode cX2_borrowerAt 7 = .ok (.ifCond .eq 12, 3) := by decide +kernel
theorem dX2_borrowerAt_10 : decode cX2_borrowerAt 10 = .ok (.aload_n 0, 1) := by decide +kernel
theorem dX2_borrowerAt_11 : decode cX2_borrowerAt 11 = .ok (.getfield 17, 3) := by decide +kernel
theorem dX2_borrowerAt_14 : decode cX2_borrowerAt 14 = .ok (.iload_n 1, 1) := by decide +kernel
theorem dX2_borrowerAt_15 : decode cX2_borrowerAt 15 = .ok (.aaload, 1) := by decide +kernel
theorem dX2_borrowerAt_16 : decode cX2_borrowerAt 16 = .ok (.goto 4, 3) := by decide +kernel
theorem dX2_borrowerAt_19 : decode cX2_borrowerAt 19 = .ok (.aconst_null, 1) := by decide +kernel
theorem dX2_borrowerAt_20 : decode cX2_borrowerAt 20 = .ok (.astore_n 2, 1) := by decide +kernel
theorem dX2_borrowerAt_21 : decode cX2_borrowerAt 21 = .ok (.aload_n 2, 1) := by decide +kernel
theorem dX2_borrowerAt_22 : decode cX2_borrowerAt 22 = .ok (.ifnonnull 13, 3) := by decide +kernel
theorem dX2_borrowerAt_25 : decode cX2_borrowerAt 25 = .ok (.new 105, 3) := by decide +kernel
theorem dX2_borrowerAt_28 : decode cX2_borrowerAt 28 = .ok (.dup, 1) := by decide +kernel
theorem dX2_borrowerAt_29 : decode cX2_borrowerAt 29 = .ok (.ldc 201, 2) := by decide +kernel
theorem dX2_borrowerAt_31 : decode cX2_borrowerAt 31 = .ok (.invokespecial 109, 3) := by decide +kernel
theorem dX2_borrowerAt_34 : decode cX2_borrowerAt 34 = .ok (.athrow, 1) := by decide +kernel
theorem dX2_borrowerAt_35 : decode cX2_borrowerAt 35 = .ok (.aload_n 2, 1) := by decide +kernel
theorem dX2_borrowerAt_36 : decode cX2_borrowerAt 36 = .ok (.areturn, 1) := by decide +kernel
set_option maxRecDepth 20000 in
theorem ggX2_wouldCross_X1_endIn : GoodIn wsX2_wouldCross wsX1_endIn := goodIn_r _ [8, 9, 10, 11, 12, 13, 7, 14, 15, 16, 17, 18, 19, 20, 21, 22, 23, 24, 25, 35, 36, 37, 38, 39, 40, 41, 42, 43] (by decide +kernel) (by decide +kernel)
set_option maxRecDepth 20000 in
theorem gX2_wouldCross_X1_endIn : GoodIn wsX2_wouldCross (wsV RX2 193 RX1 yX1_endIn wsX1_endIn) := goodIn_app (goodIn_of _ (by decide +kernel)) ggX2_wouldCross_X1_endIn
theorem dX2_wouldCross_0 : decode cX2_wouldCross 0 = .ok (.iconst 0, 1) := by decide +kernel
theorem dX2_wouldCross_1 : decode cX2_wouldCross 1 = .ok (.istore_n 3, 1) := by decide +kernel
theorem dX2_wouldCross_2 : decode cX2_wouldCross 2 = .ok (.iload_n 3, 1) := by decide +kernel
theorem dX2_wouldCross_3 : decode cX2_wouldCross 3 = .ok (.bipush 10, 2) := by decide +kernel
theorem dX2_wouldCross_5 : decode cX2_wouldCross 5 = .ok (.if_icmp .ge 59, 3) := by decide +kernel
theorem dX2_wouldCross_8 : decode cX2_wouldCross 8 = .ok (.aload_n 0, 1) := by decide +kernel
theorem dX2_wouldCross_9 : decode cX2_wouldCross 9 = .ok (.getfield 21, 3) := by decide +kernel
theorem dX2_wouldCross_12 : decode cX2_wouldCross 12 = .ok (.iload_n 3, 1) := by decide +kernel
theorem dX2_wouldCross_13 : decode cX2_wouldCross 13 = .ok (.aaload, 1) := by decide +kernel
theorem dX2_wouldCross_14 : decode cX2_wouldCross 14 = .ok (.astore 4, 2) := by decide +kernel
theorem dX2_wouldCross_16 : decode cX2_wouldCross 16 = .ok (.aload 4, 2) := by decide +kernel
theorem dX2_wouldCross_18 : decode cX2_wouldCross 18 = .ok (.ifnull 40, 3) := by decide +kernel
theorem dX2_wouldCross_21 : decode cX2_wouldCross 21 = .ok (.aload 4, 2) := by decide +kernel
theorem dX2_wouldCross_23 : decode cX2_wouldCross 23 = .ok (.aload_n 0, 1) := by decide +kernel
theorem dX2_wouldCross_24 : decode cX2_wouldCross 24 = .ok (.getfield 112, 3) := by decide +kernel
theorem dX2_wouldCross_27 : decode cX2_wouldCross 27 = .ok (.aload_n 0, 1) := by decide +kernel
theorem dX2_wouldCross_28 : decode cX2_wouldCross 28 = .ok (.getfield 120, 3) := by decide +kernel
theorem dX2_wouldCross_31 : decode cX2_wouldCross 31 = .ok (.invokevirtual 193, 3) := by decide +kernel
theorem dX2_wouldCross_34 : decode cX2_wouldCross 34 = .ok (.istore 5, 2) := by decide +kernel
theorem dX2_wouldCross_36 : decode cX2_wouldCross 36 = .ok (.iload_n 3, 1) := by decide +kernel
theorem dX2_wouldCross_37 : decode cX2_wouldCross 37 = .ok (.iload_n 1, 1) := by decide +kernel
theorem dX2_wouldCross_38 : decode cX2_wouldCross 38 = .ok (.if_icmp .ge 12, 3) := by decide +kernel
theorem dX2_wouldCross_41 : decode cX2_wouldCross 41 = .ok (.iload 5, 2) := by decide +kernel
theorem dX2_wouldCross_43 : decode cX2_wouldCross 43 = .ok (.iload_n 2, 1) := by decide +kernel
theorem dX2_wouldCross_44 : decode cX2_wouldCross 44 = .ok (.if_icmp .lt 14, 3) := by decide +kernel
theorem dX2_wouldCross_47 : decode cX2_wouldCross 47 = .ok (.goto 9, 3) := by decide +kernel
theorem dX2_wouldCross_50 : decode cX2_wouldCross 50 = .ok (.iload_n 2, 1) := by decide +kernel
theorem dX2_wouldCross_51 : decode cX2_wouldCross 51 = .ok (.iload 5, 2) := by decide +kernel
theorem dX2_wouldCross_53 : decode cX2_wouldCross 53 = .ok (.if_icmp .lt 5, 3) := by decide +kernel
theorem dX2_wouldCross_56 : decode cX2_wouldCross 56 = .ok (.iconst 1, 1) := by decide +kernel
theorem dX2_wouldCross_57 : decode cX2_wouldCross 57 = .ok (.ireturn, 1) := by decide +kernel
theorem dX2_wouldCross_58 : decode cX2_wouldCross 58 = .ok (.iinc 3 1, 3) := by decide +kernel
theorem dX2_wouldCross_61 : decode cX2_wouldCross 61 = .ok (.goto (-59), 3) := by decide +kernel
theorem dX2_wouldCross_64 : decode cX2_wouldCross 64 = .ok (.iconst 0, 1) := by decide +kernel
theorem dX2_wouldCross_65 : decode cX2_wouldCross 65 = .ok (.ireturn, 1) := by decide +kernel
set_option maxRecDepth 20000 in
theorem ggX2_clearLane_X2_isLane : GoodIn wsX2_clearLane wsX2_isLane := goodIn_r _ [6, 7, 8, 5, 9] (by decide +kernel) (by decide +kernel)
set_option maxRecDepth 20000 in
theorem gX2_clearLane_X2_isLane : GoodIn wsX2_clearLane (va_wsS RX2 101 yX2_isLane wsX2_isLane) := goodIn_app (goodIn_of _ (by decide +kernel)) ggX2_clearLane_X2_isLane
theorem dX2_clearLane_0 : decode cX2_clearLane 0 = .ok (.iload_n 1, 1) := by decide +kernel
theorem dX2_clearLane_1 : decode cX2_clearLane 1 = .ok (.invokestatic 101, 3) := by decide +kernel
theorem dX2_clearLane_4 : decode cX2_clearLane 4 = .ok (.ifCond .eq 12, 3) := by decide +kernel
theorem dX2_clearLane_7 : decode cX2_clearLane 7 = .ok (.aload_n 0, 1) := by decide +kernel
theorem dX2_clearLane_8 : decode cX2_clearLane 8 = .ok (.getfield 21, 3) := by decide +kernel
theorem dX2_clearLane_11 : decode cX2_clearLane 11 = .ok (.iload_n 1, 1) := by decide +kernel
theorem dX2_clearLane_12 : decode cX2_clearLane 12 = .ok (.aaload, 1) := by decide +kernel
theorem dX2_clearLane_13 : decode cX2_clearLane 13 = .ok (.goto 4, 3) := by decide +kernel
theorem dX2_clearLane_16 : decode cX2_clearLane 16 = .ok (.aconst_null, 1) := by decide +kernel
theorem dX2_clearLane_17 : decode cX2_clearLane 17 = .ok (.astore_n 2, 1) := by decide +kernel
theorem dX2_clearLane_18 : decode cX2_clearLane 18 = .ok (.aload_n 2, 1) := by decide +kernel
theorem dX2_clearLane_19 : decode cX2_clearLane 19 = .ok (.ifnull 15, 3) := by decide +kernel
theorem dX2_clearLane_22 : decode cX2_clearLane 22 = .ok (.aload_n 2, 1) := by decide +kernel
theorem dX2_clearLane_23 : decode cX2_clearLane 23 = .ok (.iconst (-1), 1) := by decide +kernel
theorem dX2_clearLane_24 : decode cX2_clearLane 24 = .ok (.putfield 133, 3) := by decide +kernel
theorem dX2_clearLane_27 : decode cX2_clearLane 27 = .ok (.aload_n 0, 1) := by decide +kernel
theorem dX2_clearLane_28 : decode cX2_clearLane 28 = .ok (.getfield 21, 3) := by decide +kernel
theorem dX2_clearLane_31 : decode cX2_clearLane 31 = .ok (.iload_n 1, 1) := by decide +kernel
theorem dX2_clearLane_32 : decode cX2_clearLane 32 = .ok (.aconst_null, 1) := by decide +kernel
theorem dX2_clearLane_33 : decode cX2_clearLane 33 = .ok (.aastore, 1) := by decide +kernel
theorem dX2_clearLane_34 : decode cX2_clearLane 34 = .ok (.return_, 1) := by decide +kernel
set_option maxRecDepth 20000 in
theorem ggX2_callDown_X2_clearLane : GoodIn wsX2_callDown wsX2_clearLane := goodIn_r _ [6, 7, 8, 9, 10, 5, 11, 12, 13, 14, 15, 16, 17, 18, 19, 20, 21, 22, 23, 24, 25, 26, 27, 28, 29, 30, 31, 32] (by decide +kernel) (by decide +kernel)
set_option maxRecDepth 20000 in
theorem gX2_callDown_X2_clearLane : GoodIn wsX2_callDown (wsV RX2 141 RX2 yX2_clearLane wsX2_clearLane) := goodIn_app (goodIn_of _ (by decide +kernel)) ggX2_callDown_X2_clearLane
theorem dX2_callDown_0 : decode cX2_callDown 0 = .ok (.aload_n 0, 1) := by decide +kernel
theorem dX2_callDown_1 : decode cX2_callDown 1 = .ok (.iload_n 1, 1) := by decide +kernel
theorem dX2_callDown_2 : decode cX2_callDown 2 = .ok (.invokevirtual 141, 3) := by decide +kernel
theorem dX2_callDown_5 : decode cX2_callDown 5 = .ok (.aload_n 0, 1) := by decide +kernel
theorem dX2_callDown_6 : decode cX2_callDown 6 = .ok (.dup, 1) := by decide +kernel
theorem dX2_callDown_7 : decode cX2_callDown 7 = .ok (.getfield 149, 3) := by decide +kernel
theorem dX2_callDown_10 : decode cX2_callDown 10 = .ok (.iconst 1, 1) := by decide +kernel
theorem dX2_callDown_11 : decode cX2_callDown 11 = .ok (.iadd, 1) := by decide +kernel
theorem dX2_callDown_12 : decode cX2_callDown 12 = .ok (.putfield 149, 3) := by decide +kernel
theorem dX2_callDown_15 : decode cX2_callDown 15 = .ok (.return_, 1) := by decide +kernel
set_option maxRecDepth 20000 in
theorem ggX2_callDownUnheld_X1_holdsIn : GoodIn wsX2_callDownUnheld wsX1_holdsIn := goodIn_r _ [8, 9, 10, 11, 7, 12, 13, 14, 15, 16, 17, 18, 19, 20, 21, 22, 47, 48, 49, 50, 51, 52, 53, 54, 55] (by decide +kernel) (by decide +kernel)
set_option maxRecDepth 20000 in
theorem gX2_callDownUnheld_X1_holdsIn : GoodIn wsX2_callDownUnheld (wsV RX2 187 RX1 yX1_holdsIn wsX1_holdsIn) := goodIn_app (goodIn_of _ (by decide +kernel)) ggX2_callDownUnheld_X1_holdsIn
set_option maxRecDepth 20000 in
theorem ggX2_callDownUnheld_X1_pullIn : GoodIn wsX2_callDownUnheld wsX1_pullIn := goodIn_r _ [12, 13, 14, 15, 16, 7, 17, 18, 19, 47, 48, 49, 50, 51, 52, 53, 54, 55] (by decide +kernel) (by decide +kernel)
set_option maxRecDepth 20000 in
theorem gX2_callDownUnheld_X1_pullIn : GoodIn wsX2_callDownUnheld (wsV RX2 172 RX1 yX1_pullIn wsX1_pullIn) := goodIn_app (goodIn_of _ (by decide +kernel)) ggX2_callDownUnheld_X1_pullIn
set_option maxRecDepth 20000 in
theorem ggX2_callDownUnheld_X2_callDown : GoodIn wsX2_callDownUnheld wsX2_callDown := goodIn_r _ [27, 28, 29, 30, 31, 21, 32, 1, 33, 34, 35, 36, 37, 20, 22, 38, 39, 40, 41, 42, 43, 44, 45, 46, 47, 48, 49, 50, 51, 52, 53, 54, 55] (by decide +kernel) (by decide +kernel)
set_option maxRecDepth 20000 in
theorem gX2_callDownUnheld_X2_callDown : GoodIn wsX2_callDownUnheld (wsV RX2 203 RX2 yX2_callDown wsX2_callDown) := goodIn_app (goodIn_of _ (by decide +kernel)) ggX2_callDownUnheld_X2_callDown
theorem dX2_callDownUnheld_0 : decode cX2_callDownUnheld 0 = .ok (.iconst 0, 1) := by decide +kernel
theorem dX2_callDownUnheld_1 : decode cX2_callDownUnheld 1 = .ok (.istore_n 1, 1) := by decide +kernel
theorem dX2_callDownUnheld_2 : decode cX2_callDownUnheld 2 = .ok (.iload_n 1, 1) := by decide +kernel
theorem dX2_callDownUnheld_3 : decode cX2_callDownUnheld 3 = .ok (.bipush 10, 2) := by decide +kernel
theorem dX2_callDownUnheld_5 : decode cX2_callDownUnheld 5 = .ok (.if_icmp .ge 59, 3) := by decide +kernel
theorem dX2_callDownUnheld_8 : decode cX2_callDownUnheld 8 = .ok (.aload_n 0, 1) := by decide +kernel
theorem dX2_callDownUnheld_9 : decode cX2_callDownUnheld 9 = .ok (.getfield 21, 3) := by decide +kernel
theorem dX2_callDownUnheld_12 : decode cX2_callDownUnheld 12 = .ok (.iload_n 1, 1) := by decide +kernel
theorem dX2_callDownUnheld_13 : decode cX2_callDownUnheld 13 = .ok (.aaload, 1) := by decide +kernel
theorem dX2_callDownUnheld_14 : decode cX2_callDownUnheld 14 = .ok (.astore_n 2, 1) := by decide +kernel
theorem dX2_callDownUnheld_15 : decode cX2_callDownUnheld 15 = .ok (.aload_n 2, 1) := by decide +kernel
theorem dX2_callDownUnheld_16 : decode cX2_callDownUnheld 16 = .ok (.ifnull 42, 3) := by decide +kernel
theorem dX2_callDownUnheld_19 : decode cX2_callDownUnheld 19 = .ok (.aload_n 2, 1) := by decide +kernel
theorem dX2_callDownUnheld_20 : decode cX2_callDownUnheld 20 = .ok (.aload_n 0, 1) := by decide +kernel
theorem dX2_callDownUnheld_21 : decode cX2_callDownUnheld 21 = .ok (.getfield 112, 3) := by decide +kernel
theorem dX2_callDownUnheld_24 : decode cX2_callDownUnheld 24 = .ok (.invokevirtual 187, 3) := by decide +kernel
theorem dX2_callDownUnheld_27 : decode cX2_callDownUnheld 27 = .ok (.ifCond .ne 31, 3) := by decide +kernel
theorem dX2_callDownUnheld_30 : decode cX2_callDownUnheld 30 = .ok (.aload_n 2, 1) := by decide +kernel
theorem dX2_callDownUnheld_31 : decode cX2_callDownUnheld 31 = .ok (.aload_n 2, 1) := by decide +kernel
theorem dX2_callDownUnheld_32 : decode cX2_callDownUnheld 32 = .ok (.aload_n 0, 1) := by decide +kernel
theorem dX2_callDownUnheld_33 : decode cX2_callDownUnheld 33 = .ok (.getfield 112, 3) := by decide +kernel
theorem dX2_callDownUnheld_36 : decode cX2_callDownUnheld 36 = .ok (.invokevirtual 172, 3) := by decide +kernel
theorem dX2_callDownUnheld_39 : decode cX2_callDownUnheld 39 = .ok (.sipush 6000, 3) := by decide +kernel
theorem dX2_callDownUnheld_42 : decode cX2_callDownUnheld 42 = .ok (.if_icmp .le 7, 3) := by decide +kernel
theorem dX2_callDownUnheld_45 : decode cX2_callDownUnheld 45 = .ok (.iconst 1, 1) := by decide +kernel
theorem dX2_callDownUnheld_46 : decode cX2_callDownUnheld 46 = .ok (.goto 4, 3) := by decide +kernel
theorem dX2_callDownUnheld_49 : decode cX2_callDownUnheld 49 = .ok (.iconst 0, 1) := by decide +kernel
theorem dX2_callDownUnheld_50 : decode cX2_callDownUnheld 50 = .ok (.putfield 51, 3) := by decide +kernel
theorem dX2_callDownUnheld_53 : decode cX2_callDownUnheld 53 = .ok (.aload_n 0, 1) := by decide +kernel
theorem dX2_callDownUnheld_54 : decode cX2_callDownUnheld 54 = .ok (.iload_n 1, 1) := by decide +kernel
theorem dX2_callDownUnheld_55 : decode cX2_callDownUnheld 55 = .ok (.invokevirtual 203, 3) := by decide +kernel
theorem dX2_callDownUnheld_58 : decode cX2_callDownUnheld 58 = .ok (.iinc 1 1, 3) := by decide +kernel
theorem dX2_callDownUnheld_61 : decode cX2_callDownUnheld 61 = .ok (.goto (-59), 3) := by decide +kernel
theorem dX2_callDownUnheld_64 : decode cX2_callDownUnheld 64 = .ok (.return_, 1) := by decide +kernel
set_option maxRecDepth 20000 in
theorem ggX2_callDownCrossing_X2_weakerLaneOfFirstCrossing : GoodIn wsX2_callDownCrossing wsX2_weakerLaneOfFirstCrossing := goodIn_r _ [5, 6, 7, 8, 9, 10, 11, 12, 13, 14, 15, 16, 17, 18, 19, 20, 21, 22, 23, 24, 25, 26, 27, 28, 29, 30, 31, 48, 49, 50, 51, 52, 53, 54, 55, 56, 57, 58, 59, 60, 61, 62, 63, 64, 65] (by decide +kernel) (by decide +kernel)
set_option maxRecDepth 20000 in
theorem gX2_callDownCrossing_X2_weakerLaneOfFirstCrossing : GoodIn wsX2_callDownCrossing (wsV RX2 206 RX2 yX2_weakerLaneOfFirstCrossing wsX2_weakerLaneOfFirstCrossing) := goodIn_app (goodIn_of _ (by decide +kernel)) ggX2_callDownCrossing_X2_weakerLaneOfFirstCrossing
set_option maxRecDepth 20000 in
theorem ggX2_callDownCrossing_X2_callDown : GoodIn wsX2_callDownCrossing wsX2_callDown := goodIn_r _ [35, 36, 37, 38, 39, 4, 40, 6, 41, 42, 43, 44, 45, 46, 47, 48, 49, 50, 51, 52, 53, 54, 55, 56, 57, 58, 59, 60, 61, 62, 63, 64, 65] (by decide +kernel) (by decide +kernel)
set_option maxRecDepth 20000 in
theorem gX2_callDownCrossing_X2_callDown : GoodIn wsX2_callDownCrossing (wsV RX2 203 RX2 yX2_callDown wsX2_callDown) := goodIn_app (goodIn_of _ (by decide +kernel)) ggX2_callDownCrossing_X2_callDown
theorem dX2_callDownCrossing_0 : decode cX2_callDownCrossing 0 = .ok (.iconst 0, 1) := by decide +kernel
theorem dX2_callDownCrossing_1 : decode cX2_callDownCrossing 1 = .ok (.istore_n 1, 1) := by decide +kernel
theorem dX2_callDownCrossing_2 : decode cX2_callDownCrossing 2 = .ok (.iload_n 1, 1) := by decide +kernel
theorem dX2_callDownCrossing_3 : decode cX2_callDownCrossing 3 = .ok (.bipush 10, 2) := by decide +kernel
theorem dX2_callDownCrossing_5 : decode cX2_callDownCrossing 5 = .ok (.if_icmp .ge 25, 3) := by decide +kernel
theorem dX2_callDownCrossing_8 : decode cX2_callDownCrossing 8 = .ok (.aload_n 0, 1) := by decide +kernel
theorem dX2_callDownCrossing_9 : decode cX2_callDownCrossing 9 = .ok (.invokevirtual 206, 3) := by decide +kernel
theorem dX2_callDownCrossing_12 : decode cX2_callDownCrossing 12 = .ok (.istore_n 2, 1) := by decide +kernel
theorem dX2_callDownCrossing_13 : decode cX2_callDownCrossing 13 = .ok (.iload_n 2, 1) := by decide +kernel
theorem dX2_callDownCrossing_14 : decode cX2_callDownCrossing 14 = .ok (.iconst (-1), 1) := by decide +kernel
theorem dX2_callDownCrossing_15 : decode cX2_callDownCrossing 15 = .ok (.if_icmp .ne 4, 3) := by decide +kernel
theorem dX2_callDownCrossing_18 : decode cX2_callDownCrossing 18 = .ok (.return_, 1) := by decide +kernel
theorem dX2_callDownCrossing_19 : decode cX2_callDownCrossing 19 = .ok (.aload_n 0, 1) := by decide +kernel
theorem dX2_callDownCrossing_20 : decode cX2_callDownCrossing 20 = .ok (.iload_n 2, 1) := by decide +kernel
theorem dX2_callDownCrossing_21 : decode cX2_callDownCrossing 21 = .ok (.invokevirtual 203, 3) := by decide +kernel
theorem dX2_callDownCrossing_24 : decode cX2_callDownCrossing 24 = .ok (.iinc 1 1, 3) := by decide +kernel
theorem dX2_callDownCrossing_27 : decode cX2_callDownCrossing 27 = .ok (.goto (-25), 3) := by decide +kernel
theorem dX2_callDownCrossing_30 : decode cX2_callDownCrossing 30 = .ok (.return_, 1) := by decide +kernel
set_option maxRecDepth 20000 in
theorem ggX2_weakerLaneOfFirstCrossing_X1_endIn : GoodIn wsX2_weakerLaneOfFirstCrossing wsX1_endIn := goodIn_r _ [8, 9, 10, 11, 12, 13, 7, 14, 15, 16, 17, 18, 19, 20, 21, 22, 23, 24, 25, 36, 37, 38, 39, 40, 41, 42, 43, 44] (by decide +kernel) (by decide +kernel)
set_option maxRecDepth 20000 in
theorem gX2_weakerLaneOfFirstCrossing_X1_endIn : GoodIn wsX2_weakerLaneOfFirstCrossing (wsV RX2 193 RX1 yX1_endIn wsX1_endIn) := goodIn_app (goodIn_of _ (by decide +kernel)) ggX2_weakerLaneOfFirstCrossing_X1_endIn
set_option maxRecDepth 20000 in
theorem ggX2_weakerLaneOfFirstCrossing_X1_pullIn : GoodIn wsX2_weakerLaneOfFirstCrossing wsX1_pullIn := goodIn_r _ [18, 19, 20, 21, 22, 7, 23, 24, 25, 36, 37, 38, 39, 40, 41, 42, 43, 44] (by decide +kernel) (by decide +kernel)
set_option maxRecDepth 20000 in
theorem gX2_weakerLaneOfFirstCrossing_X1_pullIn : GoodIn wsX2_weakerLaneOfFirstCrossing (wsV RX2 172 RX1 yX1_pullIn wsX1_pullIn) := goodIn_app (goodIn_of _ (by decide +kernel)) ggX2_weakerLaneOfFirstCrossing_X1_pullIn
theorem dX2_weakerLaneOfFirstCrossing_0 : decode cX2_weakerLaneOfFirstCrossing 0 = .ok (.iconst 0, 1) := by decide +kernel
theorem dX2_weakerLaneOfFirstCrossing_1 : decode cX2_weakerLaneOfFirstCrossing 1 = .ok (.istore_n 1, 1) := by decide +kernel
theorem dX2_weakerLaneOfFirstCrossing_2 : decode cX2_weakerLaneOfFirstCrossing 2 = .ok (.iload_n 1, 1) := by decide +kernel
theorem dX2_weakerLaneOfFirstCrossing_3 : decode cX2_weakerLaneOfFirstCrossing 3 = .ok (.bipush 10, 2) := by decide +kernel
theorem dX2_weakerLaneOfFirstCrossing_5 : decode cX2_weakerLaneOfFirstCrossing 5 = .ok (.if_icmp .ge 103, 3) := by decide +kernel
theorem dX2_weakerLaneOfFirstCrossing_8 : decode cX2_weakerLaneOfFirstCrossing 8 = .ok (.iload_n 1, 1) := by decide +kernel
theorem dX2_weakerLaneOfFirstCrossing_9 : decode cX2_weakerLaneOfFirstCrossing 9 = .ok (.iconst 1, 1) := by decide +kernel
theorem dX2_weakerLaneOfFirstCrossing_10 : decode cX2_weakerLaneOfFirstCrossing 10 = .ok (.iadd, 1) := by decide +kernel
theorem dX2_weakerLaneOfFirstCrossing_11 : decode cX2_weakerLaneOfFirstCrossing 11 = .ok (.istore_n 2, 1) := by decide +kernel
theorem dX2_weakerLaneOfFirstCrossing_12 : decode cX2_weakerLaneOfFirstCrossing 12 = .ok (.iload_n 2, 1) := by decide +kernel
theorem dX2_weakerLaneOfFirstCrossing_13 : decode cX2_weakerLaneOfFirstCrossing 13 = .ok (.bipush 10, 2) := by decide +kernel
theorem dX2_weakerLaneOfFirstCrossing_15 : decode cX2_weakerLaneOfFirstCrossing 15 = .ok (.if_icmp .ge 87, 3) := by decide +kernel
theorem dX2_weakerLaneOfFirstCrossing_18 : decode cX2_weakerLaneOfFirstCrossing 18 = .ok (.aload_n 0, 1) := by decide +kernel
theorem dX2_weakerLaneOfFirstCrossing_19 : decode cX2_weakerLaneOfFirstCrossing 19 = .ok (.getfield 21, 3) := by decide +kernel
theorem dX2_weakerLaneOfFirstCrossing_22 : decode cX2_weakerLaneOfFirstCrossing 22 = .ok (.iload_n 1, 1) := by decide +kernel
theorem dX2_weakerLaneOfFirstCrossing_23 : decode cX2_weakerLaneOfFirstCrossing 23 = .ok (.aaload, 1) := by decide +kernel
theorem dX2_weakerLaneOfFirstCrossing_24 : decode cX2_weakerLaneOfFirstCrossing 24 = .ok (.astore_n 3, 1) := by decide +kernel
theorem dX2_weakerLaneOfFirstCrossing_25 : decode cX2_weakerLaneOfFirstCrossing 25 = .ok (.aload_n 0, 1) := by decide +kernel
theorem dX2_weakerLaneOfFirstCrossing_26 : decode cX2_weakerLaneOfFirstCrossing 26 = .ok (.getfield 21, 3) := by decide +kernel
theorem dX2_weakerLaneOfFirstCrossing_29 : decode cX2_weakerLaneOfFirstCrossing 29 = .ok (.iload_n 2, 1) := by decide +kernel
theorem dX2_weakerLaneOfFirstCrossing_30 : decode cX2_weakerLaneOfFirstCrossing 30 = .ok (.aaload, 1) := by decide +kernel
theorem dX2_weakerLaneOfFirstCrossing_31 : decode cX2_weakerLaneOfFirstCrossing 31 = .ok (.astore 4, 2) := by decide +kernel
theorem dX2_weakerLaneOfFirstCrossing_33 : decode cX2_weakerLaneOfFirstCrossing 33 = .ok (.aload_n 3, 1) := by decide +kernel
theorem dX2_weakerLaneOfFirstCrossing_34 : decode cX2_weakerLaneOfFirstCrossing 34 = .ok (.ifnull 62, 3) := by decide +kernel
theorem dX2_weakerLaneOfFirstCrossing_37 : decode cX2_weakerLaneOfFirstCrossing 37 = .ok (.aload 4, 2) := by decide +kernel
theorem dX2_weakerLaneOfFirstCrossing_39 : decode cX2_weakerLaneOfFirstCrossing 39 = .ok (.ifnull 57, 3) := by decide +kernel
theorem dX2_weakerLaneOfFirstCrossing_42 : decode cX2_weakerLaneOfFirstCrossing 42 = .ok (.aload_n 3, 1) := by decide +kernel
theorem dX2_weakerLaneOfFirstCrossing_43 : decode cX2_weakerLaneOfFirstCrossing 43 = .ok (.aload_n 0, 1) := by decide +kernel
theorem dX2_weakerLaneOfFirstCrossing_44 : decode cX2_weakerLaneOfFirstCrossing 44 = .ok (.getfield 112, 3) := by decide +kernel
theorem dX2_weakerLaneOfFirstCrossing_47 : decode cX2_weakerLaneOfFirstCrossing 47 = .ok (.aload_n 0, 1) := by decide +kernel
theorem dX2_weakerLaneOfFirstCrossing_48 : decode cX2_weakerLaneOfFirstCrossing 48 = .ok (.getfield 120, 3) := by decide +kernel
theorem dX2_weakerLaneOfFirstCrossing_51 : decode cX2_weakerLaneOfFirstCrossing 51 = .ok (.invokevirtual 193, 3) := by decide +kernel
theorem dX2_weakerLaneOfFirstCrossing_54 : decode cX2_weakerLaneOfFirstCrossing 54 = .ok (.aload 4, 2) := by decide +kernel
theorem dX2_weakerLaneOfFirstCrossing_56 : decode cX2_weakerLaneOfFirstCrossing 56 = .ok (.aload_n 0, 1) := by decide +kernel
theorem dX2_weakerLaneOfFirstCrossing_57 : decode cX2_weakerLaneOfFirstCrossing 57 = .ok (.getfield 112, 3) := by decide +kernel
theorem dX2_weakerLaneOfFirstCrossing_60 : decode cX2_weakerLaneOfFirstCrossing 60 = .ok (.aload_n 0, 1) := by decide +kernel
theorem dX2_weakerLaneOfFirstCrossing_61 : decode cX2_weakerLaneOfFirstCrossing 61 = .ok (.getfield 120, 3) := by decide +kernel
theorem dX2_weakerLaneOfFirstCrossing_64 : decode cX2_weakerLaneOfFirstCrossing 64 = .ok (.invokevirtual 193, 3) := by decide +kernel
theorem dX2_weakerLaneOfFirstCrossing_67 : decode cX2_weakerLaneOfFirstCrossing 67 = .ok (.if_icmp .lt 29, 3) := by decide +kernel
theorem dX2_weakerLaneOfFirstCrossing_70 : decode cX2_weakerLaneOfFirstCrossing 70 = .ok (.aload_n 3, 1) := by decide +kernel
theorem dX2_weakerLaneOfFirstCrossing_71 : decode cX2_weakerLaneOfFirstCrossing 71 = .ok (.aload_n 0, 1) := by decide +kernel
theorem dX2_weakerLaneOfFirstCrossing_72 : decode cX2_weakerLaneOfFirstCrossing 72 = .ok (.getfield 112, 3) := by decide +kernel
theorem dX2_weakerLaneOfFirstCrossing_75 : decode cX2_weakerLaneOfFirstCrossing 75 = .ok (.invokevirtual 172, 3) := by decide +kernel
theorem dX2_weakerLaneOfFirstCrossing_78 : decode cX2_weakerLaneOfFirstCrossing 78 = .ok (.aload 4, 2) := by decide +kernel
theorem dX2_weakerLaneOfFirstCrossing_80 : decode cX2_weakerLaneOfFirstCrossing 80 = .ok (.aload_n 0, 1) := by decide +kernel
theorem dX2_weakerLaneOfFirstCrossing_81 : decode cX2_weakerLaneOfFirstCrossing 81 = .ok (.getfield 112, 3) := by decide +kernel
theorem dX2_weakerLaneOfFirstCrossing_84 : decode cX2_weakerLaneOfFirstCrossing 84 = .ok (.invokevirtual 172, 3) := by decide +kernel
theorem dX2_weakerLaneOfFirstCrossing_87 : decode cX2_weakerLaneOfFirstCrossing 87 = .ok (.if_icmp .ge 7, 3) := by decide +kernel
theorem dX2_weakerLaneOfFirstCrossing_90 : decode cX2_weakerLaneOfFirstCrossing 90 = .ok (.iload_n 1, 1) := by decide +kernel
theorem dX2_weakerLaneOfFirstCrossing_91 : decode cX2_weakerLaneOfFirstCrossing 91 = .ok (.goto 4, 3) := by decide +kernel
theorem dX2_weakerLaneOfFirstCrossing_94 : decode cX2_weakerLaneOfFirstCrossing 94 = .ok (.iload_n 2, 1) := by decide +kernel
theorem dX2_weakerLaneOfFirstCrossing_95 : decode cX2_weakerLaneOfFirstCrossing 95 = .ok (.ireturn, 1) := by decide +kernel
theorem dX2_weakerLaneOfFirstCrossing_96 : decode cX2_weakerLaneOfFirstCrossing 96 = .ok (.iinc 2 1, 3) := by decide +kernel
theorem dX2_weakerLaneOfFirstCrossing_99 : decode cX2_weakerLaneOfFirstCrossing 99 = .ok (.goto (-87), 3) := by decide +kernel
theorem dX2_weakerLaneOfFirstCrossing_102 : decode cX2_weakerLaneOfFirstCrossing 102 = .ok (.iinc 1 1, 3) := by decide +kernel
theorem dX2_weakerLaneOfFirstCrossing_105 : decode cX2_weakerLaneOfFirstCrossing 105 = .ok (.goto (-103), 3) := by decide +kernel
theorem dX2_weakerLaneOfFirstCrossing_108 : decode cX2_weakerLaneOfFirstCrossing 108 = .ok (.iconst (-1), 1) := by decide +kernel
theorem dX2_weakerLaneOfFirstCrossing_109 : decode cX2_weakerLaneOfFirstCrossing 109 = .ok (.ireturn, 1) := by decide +kernel
set_option maxRecDepth 20000 in
theorem ggX2_spendHour_X1_spendHour : GoodIn wsX2_spendHour wsX1_spendHour := goodIn_r _ [7, 8, 9, 10, 11, 6, 12, 13, 23, 24, 25, 26, 27, 28, 29, 30, 31] (by decide +kernel) (by decide +kernel)
set_option maxRecDepth 20000 in
theorem gX2_spendHour_X1_spendHour : GoodIn wsX2_spendHour (wsV RX2 209 RX1 yX1_spendHour wsX1_spendHour) := goodIn_app (goodIn_of _ (by decide +kernel)) ggX2_spendHour_X1_spendHour
theorem dX2_spendHour_0 : decode cX2_spendHour 0 = .ok (.aload_n 0, 1) := by decide +kernel
theorem dX2_spendHour_1 : decode cX2_spendHour 1 = .ok (.getfield 11, 3) := by decide +kernel
theorem dX2_spendHour_4 : decode cX2_spendHour 4 = .ok (.astore_n 1, 1) := by decide +kernel
theorem dX2_spendHour_5 : decode cX2_spendHour 5 = .ok (.aload_n 1, 1) := by decide +kernel
theorem dX2_spendHour_6 : decode cX2_spendHour 6 = .ok (.arraylength, 1) := by decide +kernel
theorem dX2_spendHour_7 : decode cX2_spendHour 7 = .ok (.istore_n 2, 1) := by decide +kernel
theorem dX2_spendHour_8 : decode cX2_spendHour 8 = .ok (.iconst 0, 1) := by decide +kernel
theorem dX2_spendHour_9 : decode cX2_spendHour 9 = .ok (.istore_n 3, 1) := by decide +kernel
theorem dX2_spendHour_10 : decode cX2_spendHour 10 = .ok (.iload_n 3, 1) := by decide +kernel
theorem dX2_spendHour_11 : decode cX2_spendHour 11 = .ok (.iload_n 2, 1) := by decide +kernel
theorem dX2_spendHour_12 : decode cX2_spendHour 12 = .ok (.if_icmp .ge 28, 3) := by decide +kernel
theorem dX2_spendHour_15 : decode cX2_spendHour 15 = .ok (.aload_n 1, 1) := by decide +kernel
theorem dX2_spendHour_16 : decode cX2_spendHour 16 = .ok (.iload_n 3, 1) := by decide +kernel
theorem dX2_spendHour_17 : decode cX2_spendHour 17 = .ok (.aaload, 1) := by decide +kernel
theorem dX2_spendHour_18 : decode cX2_spendHour 18 = .ok (.astore 4, 2) := by decide +kernel
theorem dX2_spendHour_20 : decode cX2_spendHour 20 = .ok (.aload 4, 2) := by decide +kernel
theorem dX2_spendHour_22 : decode cX2_spendHour 22 = .ok (.ifnull 12, 3) := by decide +kernel
theorem dX2_spendHour_25 : decode cX2_spendHour 25 = .ok (.aload 4, 2) := by decide +kernel
theorem dX2_spendHour_27 : decode cX2_spendHour 27 = .ok (.aload_n 0, 1) := by decide +kernel
theorem dX2_spendHour_28 : decode cX2_spendHour 28 = .ok (.getfield 158, 3) := by decide +kernel
theorem dX2_spendHour_31 : decode cX2_spendHour 31 = .ok (.invokevirtual 209, 3) := by decide +kernel
theorem dX2_spendHour_34 : decode cX2_spendHour 34 = .ok (.iinc 3 1, 3) := by decide +kernel
theorem dX2_spendHour_37 : decode cX2_spendHour 37 = .ok (.goto (-27), 3) := by decide +kernel
theorem dX2_spendHour_40 : decode cX2_spendHour 40 = .ok (.return_, 1) := by decide +kernel
theorem dX2_countWet_0 : decode cX2_countWet 0 = .ok (.iconst 0, 1) := by decide +kernel
theorem dX2_countWet_1 : decode cX2_countWet 1 = .ok (.istore_n 1, 1) := by decide +kernel
theorem dX2_countWet_2 : decode cX2_countWet 2 = .ok (.aload_n 0, 1) := by decide +kernel
theorem dX2_countWet_3 : decode cX2_countWet 3 = .ok (.getfield 11, 3) := by decide +kernel
theorem dX2_countWet_6 : decode cX2_countWet 6 = .ok (.astore_n 2, 1) := by decide +kernel
theorem dX2_countWet_7 : decode cX2_countWet 7 = .ok (.aload_n 2, 1) := by decide +kernel
theorem dX2_countWet_8 : decode cX2_countWet 8 = .ok (.arraylength, 1) := by decide +kernel
theorem dX2_countWet_9 : decode cX2_countWet 9 = .ok (.istore_n 3, 1) := by decide +kernel
theorem dX2_countWet_10 : decode cX2_countWet 10 = .ok (.iconst 0, 1) := by decide +kernel
theorem dX2_countWet_11 : decode cX2_countWet 11 = .ok (.istore 4, 2) := by decide +kernel
theorem dX2_countWet_13 : decode cX2_countWet 13 = .ok (.iload 4, 2) := by decide +kernel
theorem dX2_countWet_15 : decode cX2_countWet 15 = .ok (.iload_n 3, 1) := by decide +kernel
theorem dX2_countWet_16 : decode cX2_countWet 16 = .ok (.if_icmp .ge 31, 3) := by decide +kernel
theorem dX2_countWet_19 : decode cX2_countWet 19 = .ok (.aload_n 2, 1) := by decide +kernel
theorem dX2_countWet_20 : decode cX2_countWet 20 = .ok (.iload 4, 2) := by decide +kernel
theorem dX2_countWet_22 : decode cX2_countWet 22 = .ok (.aaload, 1) := by decide +kernel
theorem dX2_countWet_23 : decode cX2_countWet 23 = .ok (.astore 5, 2) := by decide +kernel
theorem dX2_countWet_25 : decode cX2_countWet 25 = .ok (.aload 5, 2) := by decide +kernel
theorem dX2_countWet_27 : decode cX2_countWet 27 = .ok (.ifnull 14, 3) := by decide +kernel
theorem dX2_countWet_30 : decode cX2_countWet 30 = .ok (.aload 5, 2) := by decide +kernel
theorem dX2_countWet_32 : decode cX2_countWet 32 = .ok (.getfield 190, 3) := by decide +kernel
theorem dX2_countWet_35 : decode cX2_countWet 35 = .ok (.ifCond .le 6, 3) := by decide +kernel
theorem dX2_countWet_38 : decode cX2_countWet 38 = .ok (.iinc 1 1, 3) := by decide +kernel
theorem dX2_countWet_41 : decode cX2_countWet 41 = .ok (.iinc 4 1, 3) := by decide +kernel
theorem dX2_countWet_44 : decode cX2_countWet 44 = .ok (.goto (-31), 3) := by decide +kernel
theorem dX2_countWet_47 : decode cX2_countWet 47 = .ok (.iload_n 1, 1) := by decide +kernel
theorem dX2_countWet_48 : decode cX2_countWet 48 = .ok (.ireturn, 1) := by decide +kernel
end
section
theorem dL_draw_0 : decode cL_draw 0 = .ok (.iload_n 1, 1) := by decide +kernel
theorem dL_draw_1 : decode cL_draw 1 = .ok (.aload_n 0, 1) := by decide +kernel
theorem dL_draw_2 : decode cL_draw 2 = .ok (.arraylength, 1) := by decide +kernel
theorem dL_draw_3 : decode cL_draw 3 = .ok (.if_icmp .ge 12, 3) := by decide +kernel
theorem dL_draw_6 : decode cL_draw 6 = .ok (.aload_n 0, 1) := by decide +kernel
theorem dL_draw_7 : decode cL_draw 7 = .ok (.iload_n 1, 1) := by decide +kernel
theorem dL_draw_8 : decode cL_draw 8 = .ok (.iaload, 1) := by decide +kernel
theorem dL_draw_9 : decode cL_draw 9 = .ok (.ldc 7, 2) := by decide +kernel
theorem dL_draw_11 : decode cL_draw 11 = .ok (.iand, 1) := by decide +kernel
theorem dL_draw_12 : decode cL_draw 12 = .ok (.goto 12, 3) := by decide +kernel
theorem dL_draw_15 : decode cL_draw 15 = .ok (.ldc 8, 2) := by decide +kernel
theorem dL_draw_17 : decode cL_draw 17 = .ok (.iload_n 1, 1) := by decide +kernel
theorem dL_draw_18 : decode cL_draw 18 = .ok (.iconst 2, 1) := by decide +kernel
theorem dL_draw_19 : decode cL_draw 19 = .ok (.iadd, 1) := by decide +kernel
theorem dL_draw_20 : decode cL_draw 20 = .ok (.imul, 1) := by decide +kernel
theorem dL_draw_21 : decode cL_draw 21 = .ok (.ldc 9, 2) := by decide +kernel
theorem dL_draw_23 : decode cL_draw 23 = .ok (.irem, 1) := by decide +kernel
theorem dL_draw_24 : decode cL_draw 24 = .ok (.ireturn, 1) := by decide +kernel
set_option maxRecDepth 20000 in
theorem ggL_kites_X2_kite : GoodIn wsL_kites wsX2_kite := goodIn_ca (goodIn_ca (goodIn_r _ [6, 7, 8, 9, 10, 11, 12, 13, 14, 15, 16, 17, 5, 18, 19, 20, 21, 22, 23, 24, 25, 26, 27, 28, 29, 30, 31, 32, 33, 34, 35, 36, 37, 38, 39, 40, 41, 42, 43, 44, 45, 46, 47, 48] (by decide +kernel) (by decide +kernel)) (goodIn_sub (fun _ h => List.mem_cons_of_mem _ (List.mem_append_left _ (List.mem_append_right _ h))) (by decide +kernel))) (goodIn_sub (fun _ h => List.mem_cons_of_mem _ (List.mem_append_right _ h)) (by decide +kernel))
set_option maxRecDepth 20000 in
theorem gL_kites_X2_kite : GoodIn wsL_kites (wsV RL 10 RX2 yX2_kite wsX2_kite) := goodIn_app (goodIn_of _ (by decide +kernel)) ggL_kites_X2_kite
theorem dL_kites_0 : decode cL_kites 0 = .ok (.aload_n 0, 1) := by decide +kernel
theorem dL_kites_1 : decode cL_kites 1 = .ok (.iload_n 1, 1) := by decide +kernel
theorem dL_kites_2 : decode cL_kites 2 = .ok (.iload_n 2, 1) := by decide +kernel
theorem dL_kites_3 : decode cL_kites 3 = .ok (.iload_n 3, 1) := by decide +kernel
theorem dL_kites_4 : decode cL_kites 4 = .ok (.invokevirtual 10, 3) := by decide +kernel
theorem dL_kites_7 : decode cL_kites 7 = .ok (.ireturn, 1) := by decide +kernel
theorem dL_kites_8 : decode cL_kites 8 = .ok (.astore 4, 2) := by decide +kernel
theorem dL_kites_10 : decode cL_kites 10 = .ok (.bipush (-2), 2) := by decide +kernel
theorem dL_kites_12 : decode cL_kites 12 = .ok (.ireturn, 1) := by decide +kernel
set_option maxRecDepth 20000 in
theorem ggL_borrowers_X2_borrower : GoodIn wsL_borrowers wsX2_borrower := goodIn_ca (goodIn_ca (goodIn_r _ [6, 7, 8, 9, 10, 11, 12, 13, 14, 15, 16, 17, 5, 18, 19, 20, 21, 22, 23, 24, 25, 26, 27, 28, 29, 30, 31, 32, 33, 34, 35, 36] (by decide +kernel) (by decide +kernel)) (goodIn_sub (fun _ h => List.mem_cons_of_mem _ (List.mem_append_left _ (List.mem_append_right _ h))) (by decide +kernel))) (goodIn_sub (fun _ h => List.mem_cons_of_mem _ (List.mem_append_right _ h)) (by decide +kernel))
set_option maxRecDepth 20000 in
theorem gL_borrowers_X2_borrower : GoodIn wsL_borrowers (wsV RL 18 RX2 yX2_borrower wsX2_borrower) := goodIn_app (goodIn_of _ (by decide +kernel)) ggL_borrowers_X2_borrower
theorem dL_borrowers_0 : decode cL_borrowers 0 = .ok (.aload_n 0, 1) := by decide +kernel
theorem dL_borrowers_1 : decode cL_borrowers 1 = .ok (.iload_n 1, 1) := by decide +kernel
theorem dL_borrowers_2 : decode cL_borrowers 2 = .ok (.invokevirtual 18, 3) := by decide +kernel
theorem dL_borrowers_5 : decode cL_borrowers 5 = .ok (.ireturn, 1) := by decide +kernel
theorem dL_borrowers_6 : decode cL_borrowers 6 = .ok (.astore_n 2, 1) := by decide +kernel
theorem dL_borrowers_7 : decode cL_borrowers 7 = .ok (.bipush (-2), 2) := by decide +kernel
theorem dL_borrowers_9 : decode cL_borrowers 9 = .ok (.ireturn, 1) := by decide +kernel
set_option maxRecDepth 20000 in
theorem ggL_patches_X2_patch : GoodIn wsL_patches wsX2_patch := goodIn_ca (goodIn_ca (goodIn_r _ [6, 7, 8, 9, 10, 11, 12, 13, 5, 14, 15, 16, 17, 18, 19, 20, 21, 22, 23, 24, 25, 26, 27, 28, 29, 30, 31, 32, 33, 34, 35, 36, 37, 38] (by decide +kernel) (by decide +kernel)) (goodIn_sub (fun _ h => List.mem_cons_of_mem _ (List.mem_append_left _ (List.mem_append_right _ h))) (by decide +kernel))) (goodIn_sub (fun _ h => List.mem_cons_of_mem _ (List.mem_append_right _ h)) (by decide +kernel))
set_option maxRecDepth 20000 in
theorem gL_patches_X2_patch : GoodIn wsL_patches (wsV RL 22 RX2 yX2_patch wsX2_patch) := goodIn_app (goodIn_of _ (by decide +kernel)) ggL_patches_X2_patch
theorem dL_patches_0 : decode cL_patches 0 = .ok (.aload_n 0, 1) := by decide +kernel
theorem dL_patches_1 : decode cL_patches 1 = .ok (.iload_n 1, 1) := by decide +kernel
theorem dL_patches_2 : decode cL_patches 2 = .ok (.invokevirtual 22, 3) := by decide +kernel
theorem dL_patches_5 : decode cL_patches 5 = .ok (.ireturn, 1) := by decide +kernel
theorem dL_patches_6 : decode cL_patches 6 = .ok (.astore_n 2, 1) := by decide +kernel
theorem dL_patches_7 : decode cL_patches 7 = .ok (.bipush (-2), 2) := by decide +kernel
theorem dL_patches_9 : decode cL_patches 9 = .ok (.ireturn, 1) := by decide +kernel
set_option maxRecDepth 20000 in
theorem ggL_lends_X2_lend : GoodIn wsL_lends wsX2_lend := goodIn_ca (goodIn_ca (goodIn_r _ [6, 7, 8, 9, 10, 11, 12, 13, 5, 14, 15, 16, 17, 18, 19, 20, 21, 22, 23, 24, 25, 26, 27, 28, 29, 30, 31, 32, 33, 34, 35, 36, 37, 38, 39, 40, 41, 42, 43, 44, 45, 46, 47, 48, 49, 50, 51, 52, 53, 54, 55, 56, 57, 58, 59, 60, 61] (by decide +kernel) (by decide +kernel)) (goodIn_sub (fun _ h => List.mem_cons_of_mem _ (List.mem_append_left _ (List.mem_append_right _ h))) (by decide +kernel))) (goodIn_sub (fun _ h => List.mem_cons_of_mem _ (List.mem_append_right _ h)) (by decide +kernel))
set_option maxRecDepth 20000 in
theorem gL_lends_X2_lend : GoodIn wsL_lends (wsV RL 25 RX2 yX2_lend wsX2_lend) := goodIn_app (goodIn_of _ (by decide +kernel)) ggL_lends_X2_lend
theorem dL_lends_0 : decode cL_lends 0 = .ok (.aload_n 0, 1) := by decide +kernel
theorem dL_lends_1 : decode cL_lends 1 = .ok (.iload_n 1, 1) := by decide +kernel
theorem dL_lends_2 : decode cL_lends 2 = .ok (.iload_n 2, 1) := by decide +kernel
theorem dL_lends_3 : decode cL_lends 3 = .ok (.invokevirtual 25, 3) := by decide +kernel
theorem dL_lends_6 : decode cL_lends 6 = .ok (.iconst 0, 1) := by decide +kernel
theorem dL_lends_7 : decode cL_lends 7 = .ok (.ireturn, 1) := by decide +kernel
theorem dL_lends_8 : decode cL_lends 8 = .ok (.astore_n 3, 1) := by decide +kernel
theorem dL_lends_9 : decode cL_lends 9 = .ok (.bipush (-2), 2) := by decide +kernel
theorem dL_lends_11 : decode cL_lends 11 = .ok (.ireturn, 1) := by decide +kernel
set_option maxRecDepth 20000 in
theorem ggL_backs_X2_giveBack : GoodIn wsL_backs wsX2_giveBack := goodIn_ca (goodIn_ca (goodIn_r _ [6, 7, 8, 9, 10, 11, 12, 13, 14, 5, 15, 16, 17, 18, 19, 20, 21, 22, 23, 24, 25, 26, 27, 28, 29, 30, 31, 32, 33, 34, 35, 36, 37, 38, 39, 40, 41, 42, 43, 44, 45, 46, 47] (by decide +kernel) (by decide +kernel)) (goodIn_sub (fun _ h => List.mem_cons_of_mem _ (List.mem_append_left _ (List.mem_append_right _ h))) (by decide +kernel))) (goodIn_sub (fun _ h => List.mem_cons_of_mem _ (List.mem_append_right _ h)) (by decide +kernel))
set_option maxRecDepth 20000 in
theorem gL_backs_X2_giveBack : GoodIn wsL_backs (wsV RL 29 RX2 yX2_giveBack wsX2_giveBack) := goodIn_app (goodIn_of _ (by decide +kernel)) ggL_backs_X2_giveBack
theorem dL_backs_0 : decode cL_backs 0 = .ok (.aload_n 0, 1) := by decide +kernel
theorem dL_backs_1 : decode cL_backs 1 = .ok (.iload_n 1, 1) := by decide +kernel
theorem dL_backs_2 : decode cL_backs 2 = .ok (.invokevirtual 29, 3) := by decide +kernel
theorem dL_backs_5 : decode cL_backs 5 = .ok (.ireturn, 1) := by decide +kernel
theorem dL_backs_6 : decode cL_backs 6 = .ok (.astore_n 2, 1) := by decide +kernel
theorem dL_backs_7 : decode cL_backs 7 = .ok (.bipush (-2), 2) := by decide +kernel
theorem dL_backs_9 : decode cL_backs 9 = .ok (.ireturn, 1) := by decide +kernel
set_option maxRecDepth 20000 in
theorem ggL_flies_X2_fly : GoodIn wsL_flies wsX2_fly := goodIn_ca (goodIn_ca (goodIn_ca (goodIn_r _ [7, 8, 9, 10, 11, 12, 13, 14, 15, 16, 17, 18, 19, 20, 21, 6, 22, 23, 24, 25, 26, 27, 28, 29, 30, 31, 32, 33, 34, 35, 36, 37, 38, 39, 40, 41, 42, 43, 44, 45, 46, 47, 48, 49, 50, 51, 52, 53, 54, 55, 56, 57, 58, 59, 60, 61, 62, 63, 64, 65, 66, 67, 68, 69, 70, 71, 72, 73, 74, 75, 76, 77, 78, 79, 80, 81, 82, 83, 84, 85, 86, 87, 88] (by decide +kernel) (by decide +kernel)) (goodIn_sub (fun _ h => List.mem_cons_of_mem _ (List.mem_append_left _ (List.mem_append_left _ (List.mem_append_right _ h)))) (by decide +kernel))) (goodIn_sub (fun _ h => List.mem_cons_of_mem _ (List.mem_append_left _ (List.mem_append_right _ h))) (by decide +kernel))) (goodIn_sub (fun _ h => List.mem_cons_of_mem _ (List.mem_append_right _ h)) (by decide +kernel))
set_option maxRecDepth 20000 in
theorem gL_flies_X2_fly : GoodIn wsL_flies (wsV RL 32 RX2 yX2_fly wsX2_fly) := goodIn_app (goodIn_of _ (by decide +kernel)) ggL_flies_X2_fly
theorem dL_flies_0 : decode cL_flies 0 = .ok (.aload_n 0, 1) := by decide +kernel
theorem dL_flies_1 : decode cL_flies 1 = .ok (.iload_n 1, 1) := by decide +kernel
theorem dL_flies_2 : decode cL_flies 2 = .ok (.iload_n 2, 1) := by decide +kernel
theorem dL_flies_3 : decode cL_flies 3 = .ok (.iload_n 3, 1) := by decide +kernel
theorem dL_flies_4 : decode cL_flies 4 = .ok (.invokevirtual 32, 3) := by decide +kernel
theorem dL_flies_7 : decode cL_flies 7 = .ok (.ireturn, 1) := by decide +kernel
theorem dL_flies_8 : decode cL_flies 8 = .ok (.astore 4, 2) := by decide +kernel
theorem dL_flies_10 : decode cL_flies 10 = .ok (.ldc 35, 2) := by decide +kernel
theorem dL_flies_12 : decode cL_flies 12 = .ok (.ireturn, 1) := by decide +kernel
set_option maxRecDepth 20000 in
theorem ggL_lands_X2_land : GoodIn wsL_lands wsX2_land := goodIn_ca (goodIn_ca (goodIn_r _ [6, 7, 8, 9, 10, 11, 12, 5, 13, 14, 15, 16, 17, 18, 19, 20, 21, 22, 23, 24, 25, 26, 27, 28, 29, 30, 31, 32, 33, 34, 35, 36, 37, 38, 39, 40, 41, 42, 43, 44, 45] (by decide +kernel) (by decide +kernel)) (goodIn_sub (fun _ h => List.mem_cons_of_mem _ (List.mem_append_left _ (List.mem_append_right _ h))) (by decide +kernel))) (goodIn_sub (fun _ h => List.mem_cons_of_mem _ (List.mem_append_right _ h)) (by decide +kernel))
set_option maxRecDepth 20000 in
theorem gL_lands_X2_land : GoodIn wsL_lands (wsV RL 36 RX2 yX2_land wsX2_land) := goodIn_app (goodIn_of _ (by decide +kernel)) ggL_lands_X2_land
theorem dL_lands_0 : decode cL_lands 0 = .ok (.aload_n 0, 1) := by decide +kernel
theorem dL_lands_1 : decode cL_lands 1 = .ok (.iload_n 1, 1) := by decide +kernel
theorem dL_lands_2 : decode cL_lands 2 = .ok (.invokevirtual 36, 3) := by decide +kernel
theorem dL_lands_5 : decode cL_lands 5 = .ok (.ireturn, 1) := by decide +kernel
theorem dL_lands_6 : decode cL_lands 6 = .ok (.astore_n 2, 1) := by decide +kernel
theorem dL_lands_7 : decode cL_lands 7 = .ok (.bipush (-2), 2) := by decide +kernel
theorem dL_lands_9 : decode cL_lands 9 = .ok (.ireturn, 1) := by decide +kernel
set_option maxRecDepth 20000 in
theorem ggL_step_L_kites : GoodIn wsL_step wsL_kites := goodIn_ca (goodIn_ca (goodIn_r _ [4, 5, 6, 7, 8, 9, 10, 11, 12, 13, 14, 15, 16, 17, 18, 19, 20, 21, 22, 23, 24, 25, 26, 27, 28, 29, 30, 31, 32, 33, 34, 244, 245, 246, 247, 248, 249, 250, 251, 252, 253, 254, 255, 256, 257, 258, 259, 260, 261] (by decide +kernel) (by decide +kernel)) (goodIn_sub (fun _ h => List.mem_cons_of_mem _ (List.mem_append_left _ (List.mem_append_left _ (List.mem_append_right _ h)))) (by decide +kernel))) (goodIn_sub (fun _ h => List.mem_cons_of_mem _ (List.mem_append_left _ (List.mem_append_right _ h))) (by decide +kernel))
set_option maxRecDepth 20000 in
theorem gL_step_L_kites : GoodIn wsL_step (va_wsS RL 39 yL_kites wsL_kites) := goodIn_app (goodIn_of _ (by decide +kernel)) ggL_step_L_kites
set_option maxRecDepth 20000 in
theorem ggL_step_X2_about : GoodIn wsL_step wsX2_about := goodIn_ca (goodIn_ca (goodIn_r _ [38, 11, 12, 39, 40, 41, 42, 43, 44, 45, 46, 47, 48, 9, 49, 50, 51, 16, 20, 21, 22, 52, 53, 54, 19, 55, 34, 56, 57, 58, 59, 60, 61, 62, 63, 64, 65, 66, 67, 68, 32, 69, 70, 71, 72, 30, 31, 253, 254, 255, 256, 257, 258, 259, 260, 261, 244, 245, 246, 247, 248, 249, 250, 251, 252] (by decide +kernel) (by decide +kernel)) (goodIn_sub (fun _ h => List.mem_cons_of_mem _ (List.mem_append_left _ (List.mem_append_left _ (List.mem_append_right _ h)))) (by decide +kernel))) (goodIn_sub (fun _ h => List.mem_cons_of_mem _ (List.mem_append_right _ h)) (by decide +kernel))
set_option maxRecDepth 20000 in
theorem gL_step_X2_about : GoodIn wsL_step (wsV RL 45 RX2 yX2_about wsX2_about) := goodIn_app (goodIn_of _ (by decide +kernel)) ggL_step_X2_about
set_option maxRecDepth 20000 in
theorem ggL_step_X2_pull : GoodIn wsL_step wsX2_pull := goodIn_ca (goodIn_ca (goodIn_r _ [76, 11, 12, 46, 47, 48, 9, 49, 50, 51, 16, 20, 21, 22, 77, 78, 79, 80, 66, 67, 19, 68, 32, 69, 70, 71, 72, 30, 31, 244, 245, 246, 247, 248, 249, 250, 251, 252, 253, 254, 255, 256, 257, 258, 259, 260, 261] (by decide +kernel) (by decide +kernel)) (goodIn_sub (fun _ h => List.mem_cons_of_mem _ (List.mem_append_left _ (List.mem_append_left _ (List.mem_append_right _ h)))) (by decide +kernel))) (goodIn_sub (fun _ h => List.mem_cons_of_mem _ (List.mem_append_right _ h)) (by decide +kernel))
set_option maxRecDepth 20000 in
theorem gL_step_X2_pull : GoodIn wsL_step (wsV RL 49 RX2 yX2_pull wsX2_pull) := goodIn_app (goodIn_of _ (by decide +kernel)) ggL_step_X2_pull
set_option maxRecDepth 20000 in
theorem ggL_step_L_borrowers : GoodIn wsL_step wsL_borrowers := goodIn_ca (goodIn_ca (goodIn_r _ [83, 5, 84, 85, 86, 9, 87, 11, 12, 13, 14, 88, 89, 90, 91, 92, 20, 21, 22, 93, 94, 95, 96, 27, 28, 97, 244, 245, 246, 247, 248, 249, 250, 251, 252, 262, 263] (by decide +kernel) (by decide +kernel)) (goodIn_sub (fun _ h => List.mem_cons_of_mem _ (List.mem_append_left _ (List.mem_append_left _ (List.mem_append_right _ h)))) (by decide +kernel))) (goodIn_sub (fun _ h => List.mem_cons_of_mem _ (List.mem_append_left _ (List.mem_append_right _ h))) (by decide +kernel))
set_option maxRecDepth 20000 in
theorem gL_step_L_borrowers : GoodIn wsL_step (va_wsS RL 52 yL_borrowers wsL_borrowers) := goodIn_app (goodIn_of _ (by decide +kernel)) ggL_step_L_borrowers
set_option maxRecDepth 20000 in
theorem ggL_step_L_kiteOf : GoodIn wsL_step wsL_kiteOf := goodIn_ca (goodIn_ca (goodIn_r _ [100, 35, 36, 37, 9, 38, 11, 12, 39, 40, 41, 42, 43, 44, 45, 46, 47, 48, 49, 50, 51, 16, 20, 21, 22, 52, 53, 54, 19, 55, 34, 56, 57, 58, 59, 60, 61, 62, 63, 64, 65, 66, 67, 68, 32, 69, 70, 71, 72, 30, 31, 253, 254, 255, 256, 257, 258, 259, 260, 261, 244, 245, 246, 247, 248, 249, 250, 251, 252] (by decide +kernel) (by decide +kernel)) (goodIn_sub (fun _ h => List.mem_cons_of_mem _ (List.mem_append_left _ (List.mem_append_left _ (List.mem_append_right _ h)))) (by decide +kernel))) (goodIn_sub (fun _ h => List.mem_cons_of_mem _ (List.mem_append_right _ h)) (by decide +kernel))
set_option maxRecDepth 20000 in
theorem gL_step_L_kiteOf : GoodIn wsL_step (va_wsS RL 56 yL_kiteOf wsL_kiteOf) := goodIn_app (goodIn_of _ (by decide +kernel)) ggL_step_L_kiteOf
set_option maxRecDepth 20000 in
theorem ggL_step_L_lends : GoodIn wsL_step wsL_lends := goodIn_ca (goodIn_ca (goodIn_r _ [103, 5, 104, 105, 106, 9, 107, 13, 14, 42, 108, 46, 47, 48, 49, 50, 51, 16, 20, 21, 22, 109, 110, 111, 112, 89, 113, 114, 115, 19, 116, 33, 117, 118, 119, 120, 121, 92, 122, 123, 97, 124, 253, 254, 255, 256, 257, 258, 259, 260, 261, 262, 263, 244, 245, 246, 247, 248, 249, 250, 251, 252] (by decide +kernel) (by decide +kernel)) (goodIn_sub (fun _ h => List.mem_cons_of_mem _ (List.mem_append_left _ (List.mem_append_right _ h))) (by decide +kernel))) (goodIn_sub (fun _ h => List.mem_cons_of_mem _ (List.mem_append_right _ h)) (by decide +kernel))
set_option maxRecDepth 20000 in
theorem gL_step_L_lends : GoodIn wsL_step (va_wsS RL 60 yL_lends wsL_lends) := goodIn_app (goodIn_of _ (by decide +kernel)) ggL_step_L_lends
set_option maxRecDepth 20000 in
theorem ggL_step_L_backs : GoodIn wsL_step wsL_backs := goodIn_ca (goodIn_ca (goodIn_r _ [127, 5, 128, 129, 130, 9, 131, 13, 14, 108, 42, 132, 109, 110, 111, 112, 50, 51, 89, 20, 21, 22, 52, 53, 54, 19, 55, 34, 262, 263, 253, 254, 255, 256, 257, 258, 259, 260, 261, 244, 245, 246, 247, 248, 249, 250, 251, 252] (by decide +kernel) (by decide +kernel)) (goodIn_sub (fun _ h => List.mem_cons_of_mem _ (List.mem_append_left _ (List.mem_append_right _ h))) (by decide +kernel))) (goodIn_sub (fun _ h => List.mem_cons_of_mem _ (List.mem_append_right _ h)) (by decide +kernel))
set_option maxRecDepth 20000 in
theorem gL_step_L_backs : GoodIn wsL_step (va_wsS RL 64 yL_backs wsL_backs) := goodIn_app (goodIn_of _ (by decide +kernel)) ggL_step_L_backs
set_option maxRecDepth 20000 in
theorem ggL_step_L_isFlown : GoodIn wsL_step wsL_isFlown := goodIn_ca (goodIn_ca (goodIn_ca (goodIn_r _ [135, 136, 73, 74, 75, 9, 76, 11, 12, 46, 47, 48, 49, 50, 51, 16, 20, 21, 22, 77, 78, 79, 80, 66, 67, 19, 68, 32, 69, 70, 71, 72, 30, 31, 35, 36, 37, 38, 39, 40, 41, 42, 43, 44, 45, 52, 53, 54, 55, 34, 56, 57, 58, 59, 60, 61, 62, 63, 64, 65, 137, 138, 139, 140, 141, 132, 142, 143, 144, 145, 146, 3, 147, 5, 148, 149, 150, 151, 13, 14, 152, 153, 154, 155, 156, 33, 117, 157, 158, 159, 160, 161, 162, 163, 164, 165, 166, 244, 245, 246, 247, 248, 249, 250, 251, 252, 253, 254, 255, 256, 257, 258, 259, 260, 261] (by decide +kernel) (by decide +kernel)) (goodIn_sub (fun _ h => List.mem_cons_of_mem _ (List.mem_append_left _ (List.mem_append_left _ (List.mem_append_right _ h)))) (by decide +kernel))) (goodIn_sub (fun _ h => List.mem_cons_of_mem _ (List.mem_append_right _ h)) (by decide +kernel))) (goodIn_sub (fun _ h => List.mem_cons_of_mem _ (List.mem_append_left _ (List.mem_append_right _ h))) (by decide +kernel))
set_option maxRecDepth 20000 in
theorem gL_step_L_isFlown : GoodIn wsL_step (va_wsS RL 67 yL_isFlown wsL_isFlown) := goodIn_app (goodIn_of _ (by decide +kernel)) ggL_step_L_isFlown
set_option maxRecDepth 20000 in
theorem ggL_step_X2_called : GoodIn wsL_step wsX2_called := goodIn_r _ [170, 171, 244, 245, 246, 247, 248, 249, 250, 251, 252] (by decide +kernel) (by decide +kernel)
set_option maxRecDepth 20000 in
theorem gL_step_X2_called : GoodIn wsL_step (wsV RL 71 RX2 yX2_called wsX2_called) := goodIn_app (goodIn_of _ (by decide +kernel)) ggL_step_X2_called
set_option maxRecDepth 20000 in
theorem ggL_step_L_lands : GoodIn wsL_step wsL_lands := goodIn_ca (goodIn_ca (goodIn_r _ [174, 5, 175, 176, 177, 9, 178, 13, 14, 43, 46, 47, 48, 49, 50, 51, 16, 20, 21, 22, 142, 143, 144, 179, 180, 181, 182, 141, 253, 254, 255, 256, 257, 258, 259, 260, 261, 244, 245, 246, 247, 248, 249, 250, 251, 252] (by decide +kernel) (by decide +kernel)) (goodIn_sub (fun _ h => List.mem_cons_of_mem _ (List.mem_append_left _ (List.mem_append_right _ h))) (by decide +kernel))) (goodIn_sub (fun _ h => List.mem_cons_of_mem _ (List.mem_append_right _ h)) (by decide +kernel))
set_option maxRecDepth 20000 in
theorem gL_step_L_lands : GoodIn wsL_step (va_wsS RL 75 yL_lands wsL_lands) := goodIn_app (goodIn_of _ (by decide +kernel)) ggL_step_L_lands
set_option maxRecDepth 20000 in
theorem ggL_step_L_patches : GoodIn wsL_step wsL_patches := goodIn_ca (goodIn_ca (goodIn_r _ [185, 5, 186, 187, 188, 9, 189, 13, 14, 40, 39, 46, 47, 48, 49, 50, 51, 16, 20, 21, 22, 253, 254, 255, 256, 257, 258, 259, 260, 261, 244, 245, 246, 247, 248, 249, 250, 251, 252] (by decide +kernel) (by decide +kernel)) (goodIn_sub (fun _ h => List.mem_cons_of_mem _ (List.mem_append_left _ (List.mem_append_right _ h))) (by decide +kernel))) (goodIn_sub (fun _ h => List.mem_cons_of_mem _ (List.mem_append_right _ h)) (by decide +kernel))
set_option maxRecDepth 20000 in
theorem gL_step_L_patches : GoodIn wsL_step (va_wsS RL 78 yL_patches wsL_patches) := goodIn_app (goodIn_of _ (by decide +kernel)) ggL_step_L_patches
set_option maxRecDepth 20000 in
theorem ggL_step_X2_rain : GoodIn wsL_step wsX2_rain := goodIn_r _ [193, 194, 244, 245, 246, 247, 248, 249, 250, 251, 252] (by decide +kernel) (by decide +kernel)
set_option maxRecDepth 20000 in
theorem gL_step_X2_rain : GoodIn wsL_step (wsV RL 81 RX2 yX2_rain wsX2_rain) := goodIn_app (goodIn_of _ (by decide +kernel)) ggL_step_X2_rain
set_option maxRecDepth 20000 in
theorem ggL_step_L_isPassed : GoodIn wsL_step wsL_isPassed := goodIn_ca (goodIn_ca (goodIn_r _ [197, 35, 36, 37, 9, 38, 11, 12, 39, 40, 41, 42, 43, 44, 45, 46, 47, 48, 49, 50, 51, 16, 20, 21, 22, 52, 53, 54, 19, 55, 34, 56, 57, 58, 59, 60, 61, 62, 63, 64, 65, 66, 67, 68, 32, 69, 70, 71, 72, 30, 31, 198, 199, 200, 201, 202, 203, 204, 205, 194, 206, 207, 208, 209, 118, 157, 210, 211, 212, 213, 253, 254, 255, 256, 257, 258, 259, 260, 261, 244, 245, 246, 247, 248, 249, 250, 251, 252] (by decide +kernel) (by decide +kernel)) (goodIn_sub (fun _ h => List.mem_cons_of_mem _ (List.mem_append_left _ (List.mem_append_left _ (List.mem_append_right _ h)))) (by decide +kernel))) (goodIn_sub (fun _ h => List.mem_cons_of_mem _ (List.mem_append_right _ h)) (by decide +kernel))
set_option maxRecDepth 20000 in
theorem gL_step_L_isPassed : GoodIn wsL_step (va_wsS RL 85 yL_isPassed wsL_isPassed) := goodIn_app (goodIn_of _ (by decide +kernel)) ggL_step_L_isPassed
set_option maxRecDepth 20000 in
theorem ggL_step_L_isBlown : GoodIn wsL_step wsL_isBlown := goodIn_ca (goodIn_ca (goodIn_r _ [216, 217, 218, 3, 219, 35, 36, 37, 9, 38, 11, 12, 39, 40, 41, 42, 43, 44, 45, 46, 47, 48, 49, 50, 51, 16, 20, 21, 22, 52, 53, 54, 19, 55, 34, 56, 57, 58, 59, 60, 61, 62, 63, 64, 65, 66, 67, 68, 32, 69, 70, 71, 72, 30, 31, 220, 221, 222, 167, 168, 169, 170, 171, 223, 224, 225, 226, 77, 78, 79, 227, 228, 229, 230, 141, 231, 159, 160, 161, 80, 232, 233, 234, 235, 179, 180, 181, 182, 142, 143, 144, 236, 237, 238, 239, 240, 241, 242, 243, 253, 254, 255, 256, 257, 258, 259, 260, 261, 244, 245, 246, 247, 248, 249, 250, 251, 252] (by decide +kernel) (by decide +kernel)) (goodIn_sub (fun _ h => List.mem_cons_of_mem _ (List.mem_append_left _ (List.mem_append_left _ (List.mem_append_right _ h)))) (by decide +kernel))) (goodIn_sub (fun _ h => List.mem_cons_of_mem _ (List.mem_append_right _ h)) (by decide +kernel))
set_option maxRecDepth 20000 in
theorem gL_step_L_isBlown : GoodIn wsL_step (va_wsS RL 89 yL_isBlown wsL_isBlown) := goodIn_app (goodIn_of _ (by decide +kernel)) ggL_step_L_isBlown
end
section
theorem dL_step_0 : decode cL_step 0 = .ok (.aload_n 1, 1) := by decide +kernel
theorem dL_step_1 : decode cL_step 1 = .ok (.iconst 0, 1) := by decide +kernel
theorem dL_step_2 : decode cL_step 2 = .ok (.iaload, 1) := by decide +kernel
theorem dL_step_3 : decode cL_step 3 = .ok (.ifCond .ne 7, 3) := by decide +kernel
theorem dL_step_6 : decode cL_step 6 = .ok (.iconst 0, 1) := by decide +kernel
theorem dL_step_7 : decode cL_step 7 = .ok (.goto 9, 3) := by decide +kernel
theorem dL_step_10 : decode cL_step 10 = .ok (.iload 5, 2) := by decide +kernel
theorem dL_step_12 : decode cL_step 12 = .ok (.aload_n 1, 1) := by decide +kernel
theorem dL_step_13 : decode cL_step 13 = .ok (.iconst 0, 1) := by decide +kernel
theorem dL_step_14 : decode cL_step 14 = .ok (.iaload, 1) := by decide +kernel
theorem dL_step_15 : decode cL_step 15 = .ok (.irem, 1) := by decide +kernel
theorem dL_step_16 : decode cL_step 16 = .ok (.istore 7, 2) := by decide +kernel
theorem dL_step_18 : decode cL_step 18 = .ok (.aload_n 1, 1) := by decide +kernel
theorem dL_step_19 : decode cL_step 19 = .ok (.iconst 1, 1) := by decide +kernel
theorem dL_step_20 : decode cL_step 20 = .ok (.iaload, 1) := by decide +kernel
theorem dL_step_21 : decode cL_step 21 = .ok (.ifCond .ne 7, 3) := by decide +kernel
theorem dL_step_24 : decode cL_step 24 = .ok (.iconst 0, 1) := by decide +kernel
theorem dL_step_25 : decode cL_step 25 = .ok (.goto 9, 3) := by decide +kernel
theorem dL_step_28 : decode cL_step 28 = .ok (.iload 6, 2) := by decide +kernel
theorem dL_step_30 : decode cL_step 30 = .ok (.aload_n 1, 1) := by decide +kernel
theorem dL_step_31 : decode cL_step 31 = .ok (.iconst 1, 1) := by decide +kernel
theorem dL_step_32 : decode cL_step 32 = .ok (.iaload, 1) := by decide +kernel
theorem dL_step_33 : decode cL_step 33 = .ok (.irem, 1) := by decide +kernel
theorem dL_step_34 : decode cL_step 34 = .ok (.istore 8, 2) := by decide +kernel
theorem dL_step_36 : decode cL_step 36 = .ok (.aload_n 1, 1) := by decide +kernel
theorem dL_step_37 : decode cL_step 37 = .ok (.iconst 0, 1) := by decide +kernel
theorem dL_step_38 : decode cL_step 38 = .ok (.iaload, 1) := by decide +kernel
theorem dL_step_39 : decode cL_step 39 = .ok (.ifCond .ne 7, 3) := by decide +kernel
theorem dL_step_42 : decode cL_step 42 = .ok (.iconst 0, 1) := by decide +kernel
theorem dL_step_43 : decode cL_step 43 = .ok (.goto 18, 3) := by decide +kernel
theorem dL_step_46 : decode cL_step 46 = .ok (.aload_n 1, 1) := by decide +kernel
theorem dL_step_47 : decode cL_step 47 = .ok (.iconst 1, 1) := by decide +kernel
theorem dL_step_48 : decode cL_step 48 = .ok (.iaload, 1) := by decide +kernel
theorem dL_step_49 : decode cL_step 49 = .ok (.ifCond .ne 7, 3) := by decide +kernel
theorem dL_step_52 : decode cL_step 52 = .ok (.iconst 1, 1) := by decide +kernel
theorem dL_step_53 : decode cL_step 53 = .ok (.goto 8, 3) := by decide +kernel
theorem dL_step_56 : decode cL_step 56 = .ok (.iload 4, 2) := by decide +kernel
theorem dL_step_58 : decode cL_step 58 = .ok (.bipush 18, 2) := by decide +kernel
theorem dL_step_60 : decode cL_step 60 = .ok (.irem, 1) := by decide +kernel
theorem dL_step_61 : decode cL_step 61 = .ok (.tableswitch 750 0 13 #[71, 212, 278, 278, 278, 386, 471, 471, 471, 471, 495, 562, 675, 735], 71) := by decide +kernel
theorem dL_step_132 : decode cL_step 132 = .ok (.aload_n 0, 1) := by decide +kernel
theorem dL_step_133 : decode cL_step 133 = .ok (.iload 5, 2) := by decide +kernel
theorem dL_step_135 : decode cL_step 135 = .ok (.iconst 3, 1) := by decide +kernel
theorem dL_step_136 : decode cL_step 136 = .ok (.irem, 1) := by decide +kernel
theorem dL_step_137 : decode cL_step 137 = .ok (.iconst 1, 1) := by decide +kernel
theorem dL_step_138 : decode cL_step 138 = .ok (.iload 6, 2) := by decide +kernel
theorem dL_step_140 : decode cL_step 140 = .ok (.bipush 20, 2) := by decide +kernel
theorem dL_step_142 : decode cL_step 142 = .ok (.irem, 1) := by decide +kernel
theorem dL_step_143 : decode cL_step 143 = .ok (.iadd, 1) := by decide +kernel
theorem dL_step_144 : decode cL_step 144 = .ok (.iconst 1, 1) := by decide +kernel
theorem dL_step_145 : decode cL_step 145 = .ok (.iload 6, 2) := by decide +kernel
theorem dL_step_147 : decode cL_step 147 = .ok (.bipush 20, 2) := by decide +kernel
theorem dL_step_149 : decode cL_step 149 = .ok (.idiv, 1) := by decide +kernel
theorem dL_step_150 : decode cL_step 150 = .ok (.bipush 20, 2) := by decide +kernel
theorem dL_step_152 : decode cL_step 152 = .ok (.irem, 1) := by decide +kernel
theorem dL_step_153 : decode cL_step 153 = .ok (.iadd, 1) := by decide +kernel
theorem dL_step_154 : decode cL_step 154 = .ok (.invokestatic 39, 3) := by decide +kernel
theorem dL_step_157 : decode cL_step 157 = .ok (.istore 9, 2) := by decide +kernel
theorem dL_step_159 : decode cL_step 159 = .ok (.iload 9, 2) := by decide +kernel
theorem dL_step_161 : decode cL_step 161 = .ok (.bipush (-2), 2) := by decide +kernel
theorem dL_step_163 : decode cL_step 163 = .ok (.if_icmp .ne 17, 3) := by decide +kernel
theorem dL_step_166 : decode cL_step 166 = .ok (.aload_n 1, 1) := by decide +kernel
theorem dL_step_167 : decode cL_step 167 = .ok (.iconst 0, 1) := by decide +kernel
theorem dL_step_168 : decode cL_step 168 = .ok (.iaload, 1) := by decide +kernel
theorem dL_step_169 : decode cL_step 169 = .ok (.bipush 8, 2) := by decide +kernel
theorem dL_step_171 : decode cL_step 171 = .ok (.if_icmp .ne 7, 3) := by decide +kernel
theorem dL_step_174 : decode cL_step 174 = .ok (.iconst 1, 1) := by decide +kernel
theorem dL_step_175 : decode cL_step 175 = .ok (.goto 4, 3) := by decide +kernel
theorem dL_step_178 : decode cL_step 178 = .ok (.iconst 0, 1) := by decide +kernel
theorem dL_step_179 : decode cL_step 179 = .ok (.ireturn, 1) := by decide +kernel
theorem dL_step_180 : decode cL_step 180 = .ok (.aload_n 2, 1) := by decide +kernel
theorem dL_step_181 : decode cL_step 181 = .ok (.iload 9, 2) := by decide +kernel
theorem dL_step_183 : decode cL_step 183 = .ok (.iload 5, 2) := by decide +kernel
theorem dL_step_185 : decode cL_step 185 = .ok (.iconst 3, 1) := by decide +kernel
theorem dL_step_186 : decode cL_step 186 = .ok (.irem, 1) := by decide +kernel
theorem dL_step_187 : decode cL_step 187 = .ok (.iastore, 1) := by decide +kernel
theorem dL_step_188 : decode cL_step 188 = .ok (.aload_n 1, 1) := by decide +kernel
theorem dL_step_189 : decode cL_step 189 = .ok (.iconst 0, 1) := by decide +kernel
theorem dL_step_190 : decode cL_step 190 = .ok (.dup2, 1) := by decide +kernel
theorem dL_step_191 : decode cL_step 191 = .ok (.iaload, 1) := by decide +kernel
theorem dL_step_192 : decode cL_step 192 = .ok (.iconst 1, 1) := by decide +kernel
theorem dL_step_193 : decode cL_step 193 = .ok (.iadd, 1) := by decide +kernel
theorem dL_step_194 : decode cL_step 194 = .ok (.iastore, 1) := by decide +kernel
theorem dL_step_195 : decode cL_step 195 = .ok (.iload 9, 2) := by decide +kernel
theorem dL_step_197 : decode cL_step 197 = .ok (.aload_n 1, 1) := by decide +kernel
theorem dL_step_198 : decode cL_step 198 = .ok (.iconst 0, 1) := by decide +kernel
theorem dL_step_199 : decode cL_step 199 = .ok (.iaload, 1) := by decide +kernel
theorem dL_step_200 : decode cL_step 200 = .ok (.iconst 1, 1) := by decide +kernel
theorem dL_step_201 : decode cL_step 201 = .ok (.isub, 1) := by decide +kernel
theorem dL_step_202 : decode cL_step 202 = .ok (.if_icmp .ne 69, 3) := by decide +kernel
theorem dL_step_205 : decode cL_step 205 = .ok (.aload_n 0, 1) := by decide +kernel
theorem dL_step_206 : decode cL_step 206 = .ok (.iload 9, 2) := by decide +kernel
theorem dL_step_208 : decode cL_step 208 = .ok (.iconst 0, 1) := by decide +kernel
theorem dL_step_209 : decode cL_step 209 = .ok (.invokevirtual 45, 3) := by decide +kernel
theorem dL_step_212 : decode cL_step 212 = .ok (.iconst 1, 1) := by decide +kernel
theorem dL_step_213 : decode cL_step 213 = .ok (.iload 6, 2) := by decide +kernel
theorem dL_step_215 : decode cL_step 215 = .ok (.bipush 20, 2) := by decide +kernel
theorem dL_step_217 : decode cL_step 217 = .ok (.idiv, 1) := by decide +kernel
theorem dL_step_218 : decode cL_step 218 = .ok (.bipush 20, 2) := by decide +kernel
theorem dL_step_220 : decode cL_step 220 = .ok (.irem, 1) := by decide +kernel
theorem dL_step_221 : decode cL_step 221 = .ok (.iadd, 1) := by decide +kernel
theorem dL_step_222 : decode cL_step 222 = .ok (.if_icmp .ne 49, 3) := by decide +kernel
theorem dL_step_225 : decode cL_step 225 = .ok (.aload_n 0, 1) := by decide +kernel
theorem dL_step_226 : decode cL_step 226 = .ok (.iload 9, 2) := by decide +kernel
theorem dL_step_228 : decode cL_step 228 = .ok (.iconst 3, 1) := by decide +kernel
theorem dL_step_229 : decode cL_step 229 = .ok (.invokevirtual 45, 3) := by decide +kernel
theorem dL_step_232 : decode cL_step 232 = .ok (.iconst (-1), 1) := by decide +kernel
theorem dL_step_233 : decode cL_step 233 = .ok (.if_icmp .ne 38, 3) := by decide +kernel
theorem dL_step_236 : decode cL_step 236 = .ok (.aload_n 0, 1) := by decide +kernel
theorem dL_step_237 : decode cL_step 237 = .ok (.iload 9, 2) := by decide +kernel
theorem dL_step_239 : decode cL_step 239 = .ok (.iconst 4, 1) := by decide +kernel
theorem dL_step_240 : decode cL_step 240 = .ok (.invokevirtual 45, 3) := by decide +kernel
theorem dL_step_243 : decode cL_step 243 = .ok (.iconst (-1), 1) := by decide +kernel
theorem dL_step_244 : decode cL_step 244 = .ok (.if_icmp .ne 27, 3) := by decide +kernel
theorem dL_step_247 : decode cL_step 247 = .ok (.aload_n 0, 1) := by decide +kernel
theorem dL_step_248 : decode cL_step 248 = .ok (.iload 9, 2) := by decide +kernel
theorem dL_step_250 : decode cL_step 250 = .ok (.iconst 0, 1) := by decide +kernel
theorem dL_step_251 : decode cL_step 251 = .ok (.invokevirtual 49, 3) := by decide +kernel
theorem dL_step_254 : decode cL_step 254 = .ok (.bipush (-100), 2) := by decide +kernel
theorem dL_step_256 : decode cL_step 256 = .ok (.aload_n 0, 1) := by decide +kernel
theorem dL_step_257 : decode cL_step 257 = .ok (.iload 9, 2) := by decide +kernel
theorem dL_step_259 : decode cL_step 259 = .ok (.iconst 0, 1) := by decide +kernel
theorem dL_step_260 : decode cL_step 260 = .ok (.invokevirtual 45, 3) := by decide +kernel
theorem dL_step_263 : decode cL_step 263 = .ok (.imul, 1) := by decide +kernel
theorem dL_step_264 : decode cL_step 264 = .ok (.if_icmp .ne 7, 3) := by decide +kernel
theorem dL_step_267 : decode cL_step 267 = .ok (.iconst 1, 1) := by decide +kernel
theorem dL_step_268 : decode cL_step 268 = .ok (.goto 4, 3) := by decide +kernel
theorem dL_step_271 : decode cL_step 271 = .ok (.iconst 0, 1) := by decide +kernel
theorem dL_step_272 : decode cL_step 272 = .ok (.ireturn, 1) := by decide +kernel
theorem dL_step_273 : decode cL_step 273 = .ok (.aload_n 0, 1) := by decide +kernel
theorem dL_step_274 : decode cL_step 274 = .ok (.iconst 1, 1) := by decide +kernel
theorem dL_step_275 : decode cL_step 275 = .ok (.iload 6, 2) := by decide +kernel
theorem dL_step_277 : decode cL_step 277 = .ok (.iconst 3, 1) := by decide +kernel
theorem dL_step_278 : decode cL_step 278 = .ok (.irem, 1) := by decide +kernel
theorem dL_step_279 : decode cL_step 279 = .ok (.iadd, 1) := by decide +kernel
theorem dL_step_280 : decode cL_step 280 = .ok (.invokestatic 52, 3) := by decide +kernel
theorem dL_step_283 : decode cL_step 283 = .ok (.istore 10, 2) := by decide +kernel
theorem dL_step_285 : decode cL_step 285 = .ok (.iload 10, 2) := by decide +kernel
theorem dL_step_287 : decode cL_step 287 = .ok (.bipush (-2), 2) := by decide +kernel
theorem dL_step_289 : decode cL_step 289 = .ok (.if_icmp .ne 17, 3) := by decide +kernel
theorem dL_step_292 : decode cL_step 292 = .ok (.aload_n 1, 1) := by decide +kernel
theorem dL_step_293 : decode cL_step 293 = .ok (.iconst 1, 1) := by decide +kernel
theorem dL_step_294 : decode cL_step 294 = .ok (.iaload, 1) := by decide +kernel
theorem dL_step_295 : decode cL_step 295 = .ok (.bipush 8, 2) := by decide +kernel
theorem dL_step_297 : decode cL_step 297 = .ok (.if_icmp .ne 7, 3) := by decide +kernel
theorem dL_step_300 : decode cL_step 300 = .ok (.iconst 1, 1) := by decide +kernel
theorem dL_step_301 : decode cL_step 301 = .ok (.goto 4, 3) := by decide +kernel
theorem dL_step_304 : decode cL_step 304 = .ok (.iconst 0, 1) := by decide +kernel
theorem dL_step_305 : decode cL_step 305 = .ok (.ireturn, 1) := by decide +kernel
theorem dL_step_306 : decode cL_step 306 = .ok (.aload_n 3, 1) := by decide +kernel
theorem dL_step_307 : decode cL_step 307 = .ok (.iload 10, 2) := by decide +kernel
theorem dL_step_309 : decode cL_step 309 = .ok (.iconst 1, 1) := by decide +kernel
theorem dL_step_310 : decode cL_step 310 = .ok (.iload 6, 2) := by decide +kernel
theorem dL_step_312 : decode cL_step 312 = .ok (.iconst 3, 1) := by decide +kernel
theorem dL_step_313 : decode cL_step 313 = .ok (.irem, 1) := by decide +kernel
theorem dL_step_314 : decode cL_step 314 = .ok (.iadd, 1) := by decide +kernel
theorem dL_step_315 : decode cL_step 315 = .ok (.iastore, 1) := by decide +kernel
theorem dL_step_316 : decode cL_step 316 = .ok (.aload_n 1, 1) := by decide +kernel
theorem dL_step_317 : decode cL_step 317 = .ok (.iconst 1, 1) := by decide +kernel
theorem dL_step_318 : decode cL_step 318 = .ok (.dup2, 1) := by decide +kernel
theorem dL_step_319 : decode cL_step 319 = .ok (.iaload, 1) := by decide +kernel
theorem dL_step_320 : decode cL_step 320 = .ok (.iconst 1, 1) := by decide +kernel
theorem dL_step_321 : decode cL_step 321 = .ok (.iadd, 1) := by decide +kernel
theorem dL_step_322 : decode cL_step 322 = .ok (.iastore, 1) := by decide +kernel
theorem dL_step_323 : decode cL_step 323 = .ok (.iload 10, 2) := by decide +kernel
theorem dL_step_325 : decode cL_step 325 = .ok (.aload_n 1, 1) := by decide +kernel
theorem dL_step_326 : decode cL_step 326 = .ok (.iconst 1, 1) := by decide +kernel
theorem dL_step_327 : decode cL_step 327 = .ok (.iaload, 1) := by decide +kernel
theorem dL_step_328 : decode cL_step 328 = .ok (.iconst 1, 1) := by decide +kernel
theorem dL_step_329 : decode cL_step 329 = .ok (.isub, 1) := by decide +kernel
theorem dL_step_330 : decode cL_step 330 = .ok (.if_icmp .ne 7, 3) := by decide +kernel
theorem dL_step_333 : decode cL_step 333 = .ok (.iconst 1, 1) := by decide +kernel
theorem dL_step_334 : decode cL_step 334 = .ok (.goto 4, 3) := by decide +kernel
theorem dL_step_337 : decode cL_step 337 = .ok (.iconst 0, 1) := by decide +kernel
theorem dL_step_338 : decode cL_step 338 = .ok (.ireturn, 1) := by decide +kernel
theorem dL_step_339 : decode cL_step 339 = .ok (.aload_n 0, 1) := by decide +kernel
theorem dL_step_340 : decode cL_step 340 = .ok (.iload 7, 2) := by decide +kernel
theorem dL_step_342 : decode cL_step 342 = .ok (.iconst 1, 1) := by decide +kernel
theorem dL_step_343 : decode cL_step 343 = .ok (.invokevirtual 45, 3) := by decide +kernel
theorem dL_step_346 : decode cL_step 346 = .ok (.ifCond .ne 50, 3) := by decide +kernel
theorem dL_step_349 : decode cL_step 349 = .ok (.aload_n 0, 1) := by decide +kernel
theorem dL_step_350 : decode cL_step 350 = .ok (.iload 7, 2) := by decide +kernel
theorem dL_step_352 : decode cL_step 352 = .ok (.iconst 2, 1) := by decide +kernel
theorem dL_step_353 : decode cL_step 353 = .ok (.invokevirtual 45, 3) := by decide +kernel
theorem dL_step_356 : decode cL_step 356 = .ok (.ifCond .ne 40, 3) := by decide +kernel
theorem dL_step_359 : decode cL_step 359 = .ok (.aload_n 0, 1) := by decide +kernel
theorem dL_step_360 : decode cL_step 360 = .ok (.iload 7, 2) := by decide +kernel
theorem dL_step_362 : decode cL_step 362 = .ok (.iconst 3, 1) := by decide +kernel
theorem dL_step_363 : decode cL_step 363 = .ok (.invokevirtual 45, 3) := by decide +kernel
theorem dL_step_366 : decode cL_step 366 = .ok (.iconst (-1), 1) := by decide +kernel
theorem dL_step_367 : decode cL_step 367 = .ok (.if_icmp .ne 29, 3) := by decide +kernel
theorem dL_step_370 : decode cL_step 370 = .ok (.aload_n 3, 1) := by decide +kernel
theorem dL_step_371 : decode cL_step 371 = .ok (.iload 8, 2) := by decide +kernel
theorem dL_step_373 : decode cL_step 373 = .ok (.iaload, 1) := by decide +kernel
theorem dL_step_374 : decode cL_step 374 = .ok (.aload_n 2, 1) := by decide +kernel
theorem dL_step_375 : decode cL_step 375 = .ok (.iload 7, 2) := by decide +kernel
theorem dL_step_377 : decode cL_step 377 = .ok (.iaload, 1) := by decide +kernel
theorem dL_step_378 : decode cL_step 378 = .ok (.if_icmp .le 18, 3) := by decide +kernel
theorem dL_step_381 : decode cL_step 381 = .ok (.aload_n 0, 1) := by decide +kernel
theorem dL_step_382 : decode cL_step 382 = .ok (.aload_n 1, 1) := by decide +kernel
theorem dL_step_383 : decode cL_step 383 = .ok (.iload 8, 2) := by decide +kernel
theorem dL_step_385 : decode cL_step 385 = .ok (.invokestatic 56, 3) := by decide +kernel
theorem dL_step_388 : decode cL_step 388 = .ok (.iconst (-1), 1) := by decide +kernel
theorem dL_step_389 : decode cL_step 389 = .ok (.if_icmp .ne 7, 3) := by decide +kernel
theorem dL_step_392 : decode cL_step 392 = .ok (.iconst 1, 1) := by decide +kernel
theorem dL_step_393 : decode cL_step 393 = .ok (.goto 4, 3) := by decide +kernel
theorem dL_step_396 : decode cL_step 396 = .ok (.iconst 0, 1) := by decide +kernel
theorem dL_step_397 : decode cL_step 397 = .ok (.istore 11, 2) := by decide +kernel
theorem dL_step_399 : decode cL_step 399 = .ok (.aload_n 0, 1) := by decide +kernel
theorem dL_step_400 : decode cL_step 400 = .ok (.iload 7, 2) := by decide +kernel
theorem dL_step_402 : decode cL_step 402 = .ok (.iload 8, 2) := by decide +kernel
theorem dL_step_404 : decode cL_step 404 = .ok (.invokestatic 60, 3) := by decide +kernel
theorem dL_step_407 : decode cL_step 407 = .ok (.istore 12, 2) := by decide +kernel
theorem dL_step_409 : decode cL_step 409 = .ok (.iload 12, 2) := by decide +kernel
theorem dL_step_411 : decode cL_step 411 = .ok (.ifCond .ne 7, 3) := by decide +kernel
theorem dL_step_414 : decode cL_step 414 = .ok (.iconst 1, 1) := by decide +kernel
theorem dL_step_415 : decode cL_step 415 = .ok (.goto 4, 3) := by decide +kernel
theorem dL_step_418 : decode cL_step 418 = .ok (.iconst 0, 1) := by decide +kernel
theorem dL_step_419 : decode cL_step 419 = .ok (.iload 11, 2) := by decide +kernel
theorem dL_step_421 : decode cL_step 421 = .ok (.if_icmp .ne 24, 3) := by decide +kernel
theorem dL_step_424 : decode cL_step 424 = .ok (.iload 11, 2) := by decide +kernel
theorem dL_step_426 : decode cL_step 426 = .ok (.ifCond .eq 15, 3) := by decide +kernel
theorem dL_step_429 : decode cL_step 429 = .ok (.aload_n 0, 1) := by decide +kernel
theorem dL_step_430 : decode cL_step 430 = .ok (.iload 7, 2) := by decide +kernel
theorem dL_step_432 : decode cL_step 432 = .ok (.iconst 3, 1) := by decide +kernel
theorem dL_step_433 : decode cL_step 433 = .ok (.invokevirtual 45, 3) := by decide +kernel
theorem dL_step_436 : decode cL_step 436 = .ok (.iload 8, 2) := by decide +kernel
theorem dL_step_438 : decode cL_step 438 = .ok (.if_icmp .ne 7, 3) := by decide +kernel
theorem dL_step_441 : decode cL_step 441 = .ok (.iconst 1, 1) := by decide +kernel
theorem dL_step_442 : decode cL_step 442 = .ok (.goto 4, 3) := by decide +kernel
theorem dL_step_445 : decode cL_step 445 = .ok (.iconst 0, 1) := by decide +kernel
theorem dL_step_446 : decode cL_step 446 = .ok (.ireturn, 1) := by decide +kernel
theorem dL_step_447 : decode cL_step 447 = .ok (.aload_n 0, 1) := by decide +kernel
theorem dL_step_448 : decode cL_step 448 = .ok (.aload_n 1, 1) := by decide +kernel
theorem dL_step_449 : decode cL_step 449 = .ok (.iload 8, 2) := by decide +kernel
theorem dL_step_451 : decode cL_step 451 = .ok (.invokestatic 56, 3) := by decide +kernel
theorem dL_step_454 : decode cL_step 454 = .ok (.istore 13, 2) := by decide +kernel
theorem dL_step_456 : decode cL_step 456 = .ok (.iload 13, 2) := by decide +kernel
theorem dL_step_458 : decode cL_step 458 = .ok (.iconst (-1), 1) := by decide +kernel
theorem dL_step_459 : decode cL_step 459 = .ok (.if_icmp .eq 18, 3) := by decide +kernel
theorem dL_step_462 : decode cL_step 462 = .ok (.aload_n 0, 1) := by decide +kernel
theorem dL_step_463 : decode cL_step 463 = .ok (.iload 13, 2) := by decide +kernel
theorem dL_step_465 : decode cL_step 465 = .ok (.iconst 4, 1) := by decide +kernel
theorem dL_step_466 : decode cL_step 466 = .ok (.invokevirtual 45, 3) := by decide +kernel
theorem dL_step_469 : decode cL_step 469 = .ok (.iconst (-1), 1) := by decide +kernel
theorem dL_step_470 : decode cL_step 470 = .ok (.if_icmp .ne 7, 3) := by decide +kernel
theorem dL_step_473 : decode cL_step 473 = .ok (.iconst 1, 1) := by decide +kernel
theorem dL_step_474 : decode cL_step 474 = .ok (.goto 4, 3) := by decide +kernel
theorem dL_step_477 : decode cL_step 477 = .ok (.iconst 0, 1) := by decide +kernel
theorem dL_step_478 : decode cL_step 478 = .ok (.istore 14, 2) := by decide +kernel
theorem dL_step_480 : decode cL_step 480 = .ok (.aload_n 0, 1) := by decide +kernel
theorem dL_step_481 : decode cL_step 481 = .ok (.iload 8, 2) := by decide +kernel
theorem dL_step_483 : decode cL_step 483 = .ok (.invokestatic 64, 3) := by decide +kernel
theorem dL_step_486 : decode cL_step 486 = .ok (.istore 15, 2) := by decide +kernel
theorem dL_step_488 : decode cL_step 488 = .ok (.iload 14, 2) := by decide +kernel
theorem dL_step_490 : decode cL_step 490 = .ok (.ifCond .eq 29, 3) := by decide +kernel
theorem dL_step_493 : decode cL_step 493 = .ok (.iload 15, 2) := by decide +kernel
theorem dL_step_495 : decode cL_step 495 = .ok (.iload 13, 2) := by decide +kernel
theorem dL_step_497 : decode cL_step 497 = .ok (.if_icmp .ne 18, 3) := by decide +kernel
theorem dL_step_500 : decode cL_step 500 = .ok (.aload_n 0, 1) := by decide +kernel
theorem dL_step_501 : decode cL_step 501 = .ok (.iload 13, 2) := by decide +kernel
theorem dL_step_503 : decode cL_step 503 = .ok (.iconst 3, 1) := by decide +kernel
theorem dL_step_504 : decode cL_step 504 = .ok (.invokevirtual 45, 3) := by decide +kernel
theorem dL_step_507 : decode cL_step 507 = .ok (.iconst (-1), 1) := by decide +kernel
theorem dL_step_508 : decode cL_step 508 = .ok (.if_icmp .ne 7, 3) := by decide +kernel
theorem dL_step_511 : decode cL_step 511 = .ok (.iconst 1, 1) := by decide +kernel
theorem dL_step_512 : decode cL_step 512 = .ok (.goto 19, 3) := by decide +kernel
theorem dL_step_515 : decode cL_step 515 = .ok (.iconst 0, 1) := by decide +kernel
theorem dL_step_516 : decode cL_step 516 = .ok (.goto 15, 3) := by decide +kernel
theorem dL_step_519 : decode cL_step 519 = .ok (.iload 15, 2) := by decide +kernel
theorem dL_step_521 : decode cL_step 521 = .ok (.bipush (-2), 2) := by decide +kernel
theorem dL_step_523 : decode cL_step 523 = .ok (.if_icmp .ne 7, 3) := by decide +kernel
theorem dL_step_526 : decode cL_step 526 = .ok (.iconst 1, 1) := by decide +kernel
theorem dL_step_527 : decode cL_step 527 = .ok (.goto 4, 3) := by decide +kernel
theorem dL_step_530 : decode cL_step 530 = .ok (.iconst 0, 1) := by decide +kernel
theorem dL_step_531 : decode cL_step 531 = .ok (.ireturn, 1) := by decide +kernel
theorem dL_step_532 : decode cL_step 532 = .ok (.aload_n 0, 1) := by decide +kernel
theorem dL_step_533 : decode cL_step 533 = .ok (.aload_n 1, 1) := by decide +kernel
theorem dL_step_534 : decode cL_step 534 = .ok (.iload 7, 2) := by decide +kernel
theorem dL_step_536 : decode cL_step 536 = .ok (.iload 6, 2) := by decide +kernel
theorem dL_step_538 : decode cL_step 538 = .ok (.bipush 10, 2) := by decide +kernel
theorem dL_step_540 : decode cL_step 540 = .ok (.irem, 1) := by decide +kernel
theorem dL_step_541 : decode cL_step 541 = .ok (.bipush 10, 2) := by decide +kernel
theorem dL_step_543 : decode cL_step 543 = .ok (.iload 6, 2) := by decide +kernel
theorem dL_step_545 : decode cL_step 545 = .ok (.bipush 10, 2) := by decide +kernel
theorem dL_step_547 : decode cL_step 547 = .ok (.idiv, 1) := by decide +kernel
theorem dL_step_548 : decode cL_step 548 = .ok (.bipush 91, 2) := by decide +kernel
theorem dL_step_550 : decode cL_step 550 = .ok (.irem, 1) := by decide +kernel
theorem dL_step_551 : decode cL_step 551 = .ok (.iadd, 1) := by decide +kernel
theorem dL_step_552 : decode cL_step 552 = .ok (.invokestatic 67, 3) := by decide +kernel
theorem dL_step_555 : decode cL_step 555 = .ok (.ireturn, 1) := by decide +kernel
theorem dL_step_556 : decode cL_step 556 = .ok (.aload_n 0, 1) := by decide +kernel
theorem dL_step_557 : decode cL_step 557 = .ok (.iload 7, 2) := by decide +kernel
theorem dL_step_559 : decode cL_step 559 = .ok (.iconst 4, 1) := by decide +kernel
theorem dL_step_560 : decode cL_step 560 = .ok (.invokevirtual 45, 3) := by decide +kernel
theorem dL_step_563 : decode cL_step 563 = .ok (.istore 16, 2) := by decide +kernel
theorem dL_step_565 : decode cL_step 565 = .ok (.aload_n 0, 1) := by decide +kernel
theorem dL_step_566 : decode cL_step 566 = .ok (.invokevirtual 71, 3) := by decide +kernel
theorem dL_step_569 : decode cL_step 569 = .ok (.istore 17, 2) := by decide +kernel
theorem dL_step_571 : decode cL_step 571 = .ok (.aload_n 0, 1) := by decide +kernel
theorem dL_step_572 : decode cL_step 572 = .ok (.iload 7, 2) := by decide +kernel
theorem dL_step_574 : decode cL_step 574 = .ok (.invokestatic 75, 3) := by decide +kernel
theorem dL_step_577 : decode cL_step 577 = .ok (.istore 18, 2) := by decide +kernel
theorem dL_step_579 : decode cL_step 579 = .ok (.iload 18, 2) := by decide +kernel
theorem dL_step_581 : decode cL_step 581 = .ok (.iload 16, 2) := by decide +kernel
theorem dL_step_583 : decode cL_step 583 = .ok (.iconst (-1), 1) := by decide +kernel
theorem dL_step_584 : decode cL_step 584 = .ok (.if_icmp .ne 8, 3) := by decide +kernel
theorem dL_step_587 : decode cL_step 587 = .ok (.bipush (-2), 2) := by decide +kernel
theorem dL_step_589 : decode cL_step 589 = .ok (.goto 5, 3) := by decide +kernel
theorem dL_step_592 : decode cL_step 592 = .ok (.iload 16, 2) := by decide +kernel
theorem dL_step_594 : decode cL_step 594 = .ok (.if_icmp .ne 27, 3) := by decide +kernel
theorem dL_step_597 : decode cL_step 597 = .ok (.aload_n 0, 1) := by decide +kernel
theorem dL_step_598 : decode cL_step 598 = .ok (.iload 7, 2) := by decide +kernel
theorem dL_step_600 : decode cL_step 600 = .ok (.iconst 4, 1) := by decide +kernel
theorem dL_step_601 : decode cL_step 601 = .ok (.invokevirtual 45, 3) := by decide +kernel
theorem dL_step_604 : decode cL_step 604 = .ok (.iconst (-1), 1) := by decide +kernel
theorem dL_step_605 : decode cL_step 605 = .ok (.if_icmp .ne 16, 3) := by decide +kernel
theorem dL_step_608 : decode cL_step 608 = .ok (.aload_n 0, 1) := by decide +kernel
theorem dL_step_609 : decode cL_step 609 = .ok (.invokevirtual 71, 3) := by decide +kernel
theorem dL_step_612 : decode cL_step 612 = .ok (.iload 17, 2) := by decide +kernel
theorem dL_step_614 : decode cL_step 614 = .ok (.if_icmp .ne 7, 3) := by decide +kernel
theorem dL_step_617 : decode cL_step 617 = .ok (.iconst 1, 1) := by decide +kernel
theorem dL_step_618 : decode cL_step 618 = .ok (.goto 4, 3) := by decide +kernel
theorem dL_step_621 : decode cL_step 621 = .ok (.iconst 0, 1) := by decide +kernel
theorem dL_step_622 : decode cL_step 622 = .ok (.ireturn, 1) := by decide +kernel
theorem dL_step_623 : decode cL_step 623 = .ok (.aload_n 0, 1) := by decide +kernel
theorem dL_step_624 : decode cL_step 624 = .ok (.iload 7, 2) := by decide +kernel
theorem dL_step_626 : decode cL_step 626 = .ok (.iconst 0, 1) := by decide +kernel
theorem dL_step_627 : decode cL_step 627 = .ok (.invokevirtual 45, 3) := by decide +kernel
theorem dL_step_630 : decode cL_step 630 = .ok (.istore 19, 2) := by decide +kernel
theorem dL_step_632 : decode cL_step 632 = .ok (.aload_n 0, 1) := by decide +kernel
theorem dL_step_633 : decode cL_step 633 = .ok (.iload 7, 2) := by decide +kernel
theorem dL_step_635 : decode cL_step 635 = .ok (.iconst 1, 1) := by decide +kernel
theorem dL_step_636 : decode cL_step 636 = .ok (.invokevirtual 45, 3) := by decide +kernel
theorem dL_step_639 : decode cL_step 639 = .ok (.iconst 1, 1) := by decide +kernel
theorem dL_step_640 : decode cL_step 640 = .ok (.if_icmp .ne 7, 3) := by decide +kernel
theorem dL_step_643 : decode cL_step 643 = .ok (.iconst 1, 1) := by decide +kernel
theorem dL_step_644 : decode cL_step 644 = .ok (.goto 4, 3) := by decide +kernel
theorem dL_step_647 : decode cL_step 647 = .ok (.iconst 0, 1) := by decide +kernel
theorem dL_step_648 : decode cL_step 648 = .ok (.istore 20, 2) := by decide +kernel
theorem dL_step_650 : decode cL_step 650 = .ok (.aload_n 0, 1) := by decide +kernel
theorem dL_step_651 : decode cL_step 651 = .ok (.iload 7, 2) := by decide +kernel
theorem dL_step_653 : decode cL_step 653 = .ok (.invokestatic 78, 3) := by decide +kernel
theorem dL_step_656 : decode cL_step 656 = .ok (.istore 21, 2) := by decide +kernel
theorem dL_step_658 : decode cL_step 658 = .ok (.iload 20, 2) := by decide +kernel
theorem dL_step_660 : decode cL_step 660 = .ok (.ifCond .eq 51, 3) := by decide +kernel
theorem dL_step_663 : decode cL_step 663 = .ok (.iload 19, 2) := by decide +kernel
theorem dL_step_665 : decode cL_step 665 = .ok (.bipush 39, 2) := by decide +kernel
theorem dL_step_667 : decode cL_step 667 = .ok (.if_icmp .ge 44, 3) := by decide +kernel
theorem dL_step_670 : decode cL_step 670 = .ok (.iload 21, 2) := by decide +kernel
theorem dL_step_672 : decode cL_step 672 = .ok (.iload 19, 2) := by decide +kernel
theorem dL_step_674 : decode cL_step 674 = .ok (.iconst 2, 1) := by decide +kernel
theorem dL_step_675 : decode cL_step 675 = .ok (.iadd, 1) := by decide +kernel
theorem dL_step_676 : decode cL_step 676 = .ok (.if_icmp .ne 31, 3) := by decide +kernel
theorem dL_step_679 : decode cL_step 679 = .ok (.aload_n 0, 1) := by decide +kernel
theorem dL_step_680 : decode cL_step 680 = .ok (.iload 7, 2) := by decide +kernel
theorem dL_step_682 : decode cL_step 682 = .ok (.iconst 1, 1) := by decide +kernel
theorem dL_step_683 : decode cL_step 683 = .ok (.invokevirtual 45, 3) := by decide +kernel
theorem dL_step_686 : decode cL_step 686 = .ok (.ifCond .ne 21, 3) := by decide +kernel
theorem dL_step_689 : decode cL_step 689 = .ok (.aload_n 0, 1) := by decide +kernel
theorem dL_step_690 : decode cL_step 690 = .ok (.iload 7, 2) := by decide +kernel
theorem dL_step_692 : decode cL_step 692 = .ok (.iconst 0, 1) := by decide +kernel
theorem dL_step_693 : decode cL_step 693 = .ok (.invokevirtual 45, 3) := by decide +kernel
theorem dL_step_696 : decode cL_step 696 = .ok (.iload 19, 2) := by decide +kernel
theorem dL_step_698 : decode cL_step 698 = .ok (.iconst 2, 1) := by decide +kernel
theorem dL_step_699 : decode cL_step 699 = .ok (.iadd, 1) := by decide +kernel
theorem dL_step_700 : decode cL_step 700 = .ok (.if_icmp .ne 7, 3) := by decide +kernel
theorem dL_step_703 : decode cL_step 703 = .ok (.iconst 1, 1) := by decide +kernel
theorem dL_step_704 : decode cL_step 704 = .ok (.goto 31, 3) := by decide +kernel
theorem dL_step_707 : decode cL_step 707 = .ok (.iconst 0, 1) := by decide +kernel
theorem dL_step_708 : decode cL_step 708 = .ok (.goto 27, 3) := by decide +kernel
theorem dL_step_711 : decode cL_step 711 = .ok (.iload 21, 2) := by decide +kernel
theorem dL_step_713 : decode cL_step 713 = .ok (.bipush (-2), 2) := by decide +kernel
theorem dL_step_715 : decode cL_step 715 = .ok (.if_icmp .ne 19, 3) := by decide +kernel
theorem dL_step_718 : decode cL_step 718 = .ok (.aload_n 0, 1) := by decide +kernel
theorem dL_step_719 : decode cL_step 719 = .ok (.iload 7, 2) := by decide +kernel
theorem dL_step_721 : decode cL_step 721 = .ok (.iconst 0, 1) := by decide +kernel
theorem dL_step_722 : decode cL_step 722 = .ok (.invokevirtual 45, 3) := by decide +kernel
theorem dL_step_725 : decode cL_step 725 = .ok (.iload 19, 2) := by decide +kernel
theorem dL_step_727 : decode cL_step 727 = .ok (.if_icmp .ne 7, 3) := by decide +kernel
theorem dL_step_730 : decode cL_step 730 = .ok (.iconst 1, 1) := by decide +kernel
theorem dL_step_731 : decode cL_step 731 = .ok (.goto 4, 3) := by decide +kernel
theorem dL_step_734 : decode cL_step 734 = .ok (.iconst 0, 1) := by decide +kernel
theorem dL_step_735 : decode cL_step 735 = .ok (.ireturn, 1) := by decide +kernel
theorem dL_step_736 : decode cL_step 736 = .ok (.aload_n 0, 1) := by decide +kernel
theorem dL_step_737 : decode cL_step 737 = .ok (.iload 6, 2) := by decide +kernel
theorem dL_step_739 : decode cL_step 739 = .ok (.iconst 2, 1) := by decide +kernel
theorem dL_step_740 : decode cL_step 740 = .ok (.irem, 1) := by decide +kernel
theorem dL_step_741 : decode cL_step 741 = .ok (.ifCond .ne 7, 3) := by decide +kernel
theorem dL_step_744 : decode cL_step 744 = .ok (.iconst 1, 1) := by decide +kernel
theorem dL_step_745 : decode cL_step 745 = .ok (.goto 4, 3) := by decide +kernel
theorem dL_step_748 : decode cL_step 748 = .ok (.iconst 0, 1) := by decide +kernel
theorem dL_step_749 : decode cL_step 749 = .ok (.invokevirtual 81, 3) := by decide +kernel
theorem dL_step_752 : decode cL_step 752 = .ok (.istore 22, 2) := by decide +kernel
theorem dL_step_754 : decode cL_step 754 = .ok (.iload 22, 2) := by decide +kernel
theorem dL_step_756 : decode cL_step 756 = .ok (.aload_n 1, 1) := by decide +kernel
theorem dL_step_757 : decode cL_step 757 = .ok (.iconst 2, 1) := by decide +kernel
theorem dL_step_758 : decode cL_step 758 = .ok (.iaload, 1) := by decide +kernel
theorem dL_step_759 : decode cL_step 759 = .ok (.iconst 1, 1) := by decide +kernel
theorem dL_step_760 : decode cL_step 760 = .ok (.if_icmp .ne 7, 3) := by decide +kernel
theorem dL_step_763 : decode cL_step 763 = .ok (.iconst 1, 1) := by decide +kernel
theorem dL_step_764 : decode cL_step 764 = .ok (.goto 4, 3) := by decide +kernel
theorem dL_step_767 : decode cL_step 767 = .ok (.iconst 0, 1) := by decide +kernel
theorem dL_step_768 : decode cL_step 768 = .ok (.if_icmp .ne 7, 3) := by decide +kernel
theorem dL_step_771 : decode cL_step 771 = .ok (.iconst 1, 1) := by decide +kernel
theorem dL_step_772 : decode cL_step 772 = .ok (.goto 4, 3) := by decide +kernel
theorem dL_step_775 : decode cL_step 775 = .ok (.iconst 0, 1) := by decide +kernel
theorem dL_step_776 : decode cL_step 776 = .ok (.istore 23, 2) := by decide +kernel
theorem dL_step_778 : decode cL_step 778 = .ok (.aload_n 1, 1) := by decide +kernel
theorem dL_step_779 : decode cL_step 779 = .ok (.iconst 2, 1) := by decide +kernel
theorem dL_step_780 : decode cL_step 780 = .ok (.iload 6, 2) := by decide +kernel
theorem dL_step_782 : decode cL_step 782 = .ok (.iconst 2, 1) := by decide +kernel
theorem dL_step_783 : decode cL_step 783 = .ok (.irem, 1) := by decide +kernel
theorem dL_step_784 : decode cL_step 784 = .ok (.ifCond .ne 7, 3) := by decide +kernel
theorem dL_step_787 : decode cL_step 787 = .ok (.iconst 1, 1) := by decide +kernel
theorem dL_step_788 : decode cL_step 788 = .ok (.goto 4, 3) := by decide +kernel
theorem dL_step_791 : decode cL_step 791 = .ok (.iconst 0, 1) := by decide +kernel
theorem dL_step_792 : decode cL_step 792 = .ok (.iastore, 1) := by decide +kernel
theorem dL_step_793 : decode cL_step 793 = .ok (.iload 23, 2) := by decide +kernel
theorem dL_step_795 : decode cL_step 795 = .ok (.ireturn, 1) := by decide +kernel
theorem dL_step_796 : decode cL_step 796 = .ok (.aload_n 0, 1) := by decide +kernel
theorem dL_step_797 : decode cL_step 797 = .ok (.aload_n 1, 1) := by decide +kernel
theorem dL_step_798 : decode cL_step 798 = .ok (.iload 7, 2) := by decide +kernel
theorem dL_step_800 : decode cL_step 800 = .ok (.iconst 1, 1) := by decide +kernel
theorem dL_step_801 : decode cL_step 801 = .ok (.iload 6, 2) := by decide +kernel
theorem dL_step_803 : decode cL_step 803 = .ok (.bipush 24, 2) := by decide +kernel
theorem dL_step_805 : decode cL_step 805 = .ok (.irem, 1) := by decide +kernel
theorem dL_step_806 : decode cL_step 806 = .ok (.iadd, 1) := by decide +kernel
theorem dL_step_807 : decode cL_step 807 = .ok (.invokestatic 85, 3) := by decide +kernel
theorem dL_step_810 : decode cL_step 810 = .ok (.ireturn, 1) := by decide +kernel
theorem dL_step_811 : decode cL_step 811 = .ok (.aload_n 0, 1) := by decide +kernel
theorem dL_step_812 : decode cL_step 812 = .ok (.aload_n 1, 1) := by decide +kernel
theorem dL_step_813 : decode cL_step 813 = .ok (.iload 6, 2) := by decide +kernel
theorem dL_step_815 : decode cL_step 815 = .ok (.bipush 31, 2) := by decide +kernel
theorem dL_step_817 : decode cL_step 817 = .ok (.irem, 1) := by decide +kernel
theorem dL_step_818 : decode cL_step 818 = .ok (.iload 6, 2) := by decide +kernel
theorem dL_step_820 : decode cL_step 820 = .ok (.bipush 31, 2) := by decide +kernel
theorem dL_step_822 : decode cL_step 822 = .ok (.idiv, 1) := by decide +kernel
theorem dL_step_823 : decode cL_step 823 = .ok (.bipush 11, 2) := by decide +kernel
theorem dL_step_825 : decode cL_step 825 = .ok (.irem, 1) := by decide +kernel
theorem dL_step_826 : decode cL_step 826 = .ok (.iconst 5, 1) := by decide +kernel
theorem dL_step_827 : decode cL_step 827 = .ok (.isub, 1) := by decide +kernel
theorem dL_step_828 : decode cL_step 828 = .ok (.invokestatic 89, 3) := by decide +kernel
theorem dL_step_831 : decode cL_step 831 = .ok (.ireturn, 1) := by decide +kernel
set_option maxRecDepth 20000 in
theorem ggL_kiteOf_X2_about : GoodIn wsL_kiteOf wsX2_about := goodIn_ca (goodIn_ca (goodIn_r _ [5, 6, 7, 8, 9, 10, 11, 12, 13, 14, 15, 16, 17, 4, 18, 19, 20, 21, 22, 23, 24, 25, 26, 27, 28, 29, 30, 31, 32, 33, 34, 35, 36, 37, 38, 39, 40, 41, 42, 43, 44, 45, 46, 47, 48, 49, 50, 51, 52, 53, 54, 55, 56, 57, 58, 59, 60, 61, 62, 63, 64, 65, 66, 67, 68] (by decide +kernel) (by decide +kernel)) (goodIn_sub (fun _ h => List.mem_cons_of_mem _ (List.mem_append_left _ (List.mem_append_right _ h))) (by decide +kernel))) (goodIn_sub (fun _ h => List.mem_cons_of_mem _ (List.mem_append_right _ h)) (by decide +kernel))
set_option maxRecDepth 20000 in
theorem gL_kiteOf_X2_about : GoodIn wsL_kiteOf (wsV RL 45 RX2 yX2_about wsX2_about) := goodIn_app (goodIn_of _ (by decide +kernel)) ggL_kiteOf_X2_about
theorem dL_kiteOf_0 : decode cL_kiteOf 0 = .ok (.iconst 0, 1) := by decide +kernel
theorem dL_kiteOf_1 : decode cL_kiteOf 1 = .ok (.istore_n 3, 1) := by decide +kernel
theorem dL_kiteOf_2 : decode cL_kiteOf 2 = .ok (.iload_n 3, 1) := by decide +kernel
theorem dL_kiteOf_3 : decode cL_kiteOf 3 = .ok (.aload_n 1, 1) := by decide +kernel
theorem dL_kiteOf_4 : decode cL_kiteOf 4 = .ok (.iconst 0, 1) := by decide +kernel
theorem dL_kiteOf_5 : decode cL_kiteOf 5 = .ok (.iaload, 1) := by decide +kernel
theorem dL_kiteOf_6 : decode cL_kiteOf 6 = .ok (.if_icmp .ge 21, 3) := by decide +kernel
theorem dL_kiteOf_9 : decode cL_kiteOf 9 = .ok (.aload_n 0, 1) := by decide +kernel
theorem dL_kiteOf_10 : decode cL_kiteOf 10 = .ok (.iload_n 3, 1) := by decide +kernel
theorem dL_kiteOf_11 : decode cL_kiteOf 11 = .ok (.iconst 3, 1) := by decide +kernel
theorem dL_kiteOf_12 : decode cL_kiteOf 12 = .ok (.invokevirtual 45, 3) := by decide +kernel
theorem dL_kiteOf_15 : decode cL_kiteOf 15 = .ok (.iload_n 2, 1) := by decide +kernel
theorem dL_kiteOf_16 : decode cL_kiteOf 16 = .ok (.if_icmp .ne 5, 3) := by decide +kernel
theorem dL_kiteOf_19 : decode cL_kiteOf 19 = .ok (.iload_n 3, 1) := by decide +kernel
theorem dL_kiteOf_20 : decode cL_kiteOf 20 = .ok (.ireturn, 1) := by decide +kernel
theorem dL_kiteOf_21 : decode cL_kiteOf 21 = .ok (.iinc 3 1, 3) := by decide +kernel
theorem dL_kiteOf_24 : decode cL_kiteOf 24 = .ok (.goto (-22), 3) := by decide +kernel
theorem dL_kiteOf_27 : decode cL_kiteOf 27 = .ok (.iconst (-1), 1) := by decide +kernel
theorem dL_kiteOf_28 : decode cL_kiteOf 28 = .ok (.ireturn, 1) := by decide +kernel
set_option maxRecDepth 20000 in
theorem ggL_isFlown_X2_pull : GoodIn wsL_isFlown wsX2_pull := goodIn_ca (goodIn_ca (goodIn_r _ [6, 7, 8, 9, 10, 11, 5, 12, 13, 14, 15, 16, 17, 18, 19, 20, 21, 22, 23, 24, 25, 26, 27, 28, 29, 30, 31, 32, 33, 97, 98, 99, 100, 101, 102, 103, 104, 105, 106, 107, 108, 109, 110, 111, 112, 113, 114] (by decide +kernel) (by decide +kernel)) (goodIn_sub (fun _ h => List.mem_cons_of_mem _ (List.mem_append_left _ (List.mem_append_left _ (List.mem_append_right _ h)))) (by decide +kernel))) (goodIn_sub (fun _ h => List.mem_cons_of_mem _ (List.mem_append_left _ (List.mem_append_right _ h))) (by decide +kernel))
set_option maxRecDepth 20000 in
theorem gL_isFlown_X2_pull : GoodIn wsL_isFlown (wsV RL 49 RX2 yX2_pull wsX2_pull) := goodIn_app (goodIn_of _ (by decide +kernel)) ggL_isFlown_X2_pull
set_option maxRecDepth 20000 in
theorem ggL_isFlown_X2_about : GoodIn wsL_isFlown wsX2_about := goodIn_ca (goodIn_ca (goodIn_r _ [37, 7, 8, 38, 39, 40, 41, 42, 43, 44, 9, 10, 11, 5, 12, 13, 14, 15, 16, 17, 18, 45, 46, 47, 25, 48, 49, 50, 51, 52, 53, 54, 55, 56, 57, 58, 59, 23, 24, 26, 27, 28, 29, 30, 31, 32, 33, 106, 107, 108, 109, 110, 111, 112, 113, 114, 97, 98, 99, 100, 101, 102, 103, 104, 105] (by decide +kernel) (by decide +kernel)) (goodIn_sub (fun _ h => List.mem_cons_of_mem _ (List.mem_append_left _ (List.mem_append_left _ (List.mem_append_right _ h)))) (by decide +kernel))) (goodIn_sub (fun _ h => List.mem_cons_of_mem _ (List.mem_append_left _ (List.mem_append_right _ h))) (by decide +kernel))
set_option maxRecDepth 20000 in
theorem gL_isFlown_X2_about : GoodIn wsL_isFlown (wsV RL 45 RX2 yX2_about wsX2_about) := goodIn_app (goodIn_of _ (by decide +kernel)) ggL_isFlown_X2_about
set_option maxRecDepth 20000 in
theorem ggL_isFlown_X2_lane : GoodIn wsL_isFlown wsX2_lane := goodIn_ca (goodIn_r _ [63, 13, 14, 64, 65, 66, 67, 5, 68, 16, 17, 18, 97, 98, 99, 100, 101, 102, 103, 104, 105, 106, 107, 108, 109, 110, 111, 112, 113, 114] (by decide +kernel) (by decide +kernel)) (goodIn_sub (fun _ h => List.mem_cons_of_mem _ (List.mem_append_left _ (List.mem_append_right _ h))) (by decide +kernel))
set_option maxRecDepth 20000 in
theorem gL_isFlown_X2_lane : GoodIn wsL_isFlown (wsV RL 92 RX2 yX2_lane wsX2_lane) := goodIn_app (goodIn_of _ (by decide +kernel)) ggL_isFlown_X2_lane
set_option maxRecDepth 20000 in
theorem ggL_isFlown_L_flies : GoodIn wsL_isFlown wsL_flies := goodIn_ca (goodIn_ca (goodIn_ca (goodIn_r _ [72, 73, 1, 74, 75, 76, 5, 77, 13, 14, 7, 8, 78, 79, 43, 64, 44, 42, 80, 9, 10, 11, 12, 15, 16, 17, 18, 66, 67, 68, 81, 82, 83, 25, 84, 85, 86, 87, 46, 47, 48, 49, 88, 89, 90, 91, 59, 23, 24, 26, 27, 28, 29, 30, 31, 32, 33, 92, 56, 57, 58, 93, 94, 95, 96, 50, 51, 52, 53, 54, 55, 97, 98, 99, 100, 101, 102, 103, 104, 105, 106, 107, 108, 109, 110, 111, 112, 113, 114] (by decide +kernel) (by decide +kernel)) (goodIn_sub (fun _ h => List.mem_cons_of_mem _ (List.mem_append_left _ (List.mem_append_right _ h))) (by decide +kernel))) (goodIn_sub (fun _ h => List.mem_cons_of_mem _ (List.mem_append_left _ (List.mem_append_left _ (List.mem_append_right _ h)))) (by decide +kernel))) (goodIn_sub (fun _ h => List.mem_cons_of_mem _ (List.mem_append_right _ h)) (by decide +kernel))
set_option maxRecDepth 20000 in
theorem gL_isFlown_L_flies : GoodIn wsL_isFlown (va_wsS RL 95 yL_flies wsL_flies) := goodIn_app (goodIn_of _ (by decide +kernel)) ggL_isFlown_L_flies
theorem dL_isFlown_0 : decode cL_isFlown 0 = .ok (.aload_n 0, 1) := by decide +kernel
theorem dL_isFlown_1 : decode cL_isFlown 1 = .ok (.iload_n 2, 1) := by decide +kernel
theorem dL_isFlown_2 : decode cL_isFlown 2 = .ok (.aload_n 1, 1) := by decide +kernel
theorem dL_isFlown_3 : decode cL_isFlown 3 = .ok (.iconst 3, 1) := by decide +kernel
theorem dL_isFlown_4 : decode cL_isFlown 4 = .ok (.iaload, 1) := by decide +kernel
theorem dL_isFlown_5 : decode cL_isFlown 5 = .ok (.invokevirtual 49, 3) := by decide +kernel
theorem dL_isFlown_8 : decode cL_isFlown 8 = .ok (.bipush 100, 2) := by decide +kernel
theorem dL_isFlown_10 : decode cL_isFlown 10 = .ok (.if_icmp .lt 21, 3) := by decide +kernel
theorem dL_isFlown_13 : decode cL_isFlown 13 = .ok (.aload_n 0, 1) := by decide +kernel
theorem dL_isFlown_14 : decode cL_isFlown 14 = .ok (.iload_n 2, 1) := by decide +kernel
theorem dL_isFlown_15 : decode cL_isFlown 15 = .ok (.aload_n 1, 1) := by decide +kernel
theorem dL_isFlown_16 : decode cL_isFlown 16 = .ok (.iconst 3, 1) := by decide +kernel
theorem dL_isFlown_17 : decode cL_isFlown 17 = .ok (.iaload, 1) := by decide +kernel
theorem dL_isFlown_18 : decode cL_isFlown 18 = .ok (.invokevirtual 49, 3) := by decide +kernel
theorem dL_isFlown_21 : decode cL_isFlown 21 = .ok (.sipush 6000, 3) := by decide +kernel
theorem dL_isFlown_24 : decode cL_isFlown 24 = .ok (.if_icmp .gt 7, 3) := by decide +kernel
theorem dL_isFlown_27 : decode cL_isFlown 27 = .ok (.iconst 1, 1) := by decide +kernel
theorem dL_isFlown_28 : decode cL_isFlown 28 = .ok (.goto 4, 3) := by decide +kernel
theorem dL_isFlown_31 : decode cL_isFlown 31 = .ok (.iconst 0, 1) := by decide +kernel
theorem dL_isFlown_32 : decode cL_isFlown 32 = .ok (.istore 5, 2) := by decide +kernel
theorem dL_isFlown_34 : decode cL_isFlown 34 = .ok (.aload_n 0, 1) := by decide +kernel
theorem dL_isFlown_35 : decode cL_isFlown 35 = .ok (.iload_n 2, 1) := by decide +kernel
theorem dL_isFlown_36 : decode cL_isFlown 36 = .ok (.iconst 1, 1) := by decide +kernel
theorem dL_isFlown_37 : decode cL_isFlown 37 = .ok (.invokevirtual 45, 3) := by decide +kernel
theorem dL_isFlown_40 : decode cL_isFlown 40 = .ok (.ifCond .ne 41, 3) := by decide +kernel
theorem dL_isFlown_43 : decode cL_isFlown 43 = .ok (.aload_n 0, 1) := by decide +kernel
theorem dL_isFlown_44 : decode cL_isFlown 44 = .ok (.iload_n 2, 1) := by decide +kernel
theorem dL_isFlown_45 : decode cL_isFlown 45 = .ok (.iconst 3, 1) := by decide +kernel
theorem dL_isFlown_46 : decode cL_isFlown 46 = .ok (.invokevirtual 45, 3) := by decide +kernel
theorem dL_isFlown_49 : decode cL_isFlown 49 = .ok (.iconst (-1), 1) := by decide +kernel
theorem dL_isFlown_50 : decode cL_isFlown 50 = .ok (.if_icmp .eq 31, 3) := by decide +kernel
theorem dL_isFlown_53 : decode cL_isFlown 53 = .ok (.aload_n 0, 1) := by decide +kernel
theorem dL_isFlown_54 : decode cL_isFlown 54 = .ok (.iload_n 2, 1) := by decide +kernel
theorem dL_isFlown_55 : decode cL_isFlown 55 = .ok (.iconst 4, 1) := by decide +kernel
theorem dL_isFlown_56 : decode cL_isFlown 56 = .ok (.invokevirtual 45, 3) := by decide +kernel
theorem dL_isFlown_59 : decode cL_isFlown 59 = .ok (.iconst (-1), 1) := by decide +kernel
theorem dL_isFlown_60 : decode cL_isFlown 60 = .ok (.if_icmp .ne 21, 3) := by decide +kernel
theorem dL_isFlown_63 : decode cL_isFlown 63 = .ok (.iload 5, 2) := by decide +kernel
theorem dL_isFlown_65 : decode cL_isFlown 65 = .ok (.ifCond .eq 16, 3) := by decide +kernel
theorem dL_isFlown_68 : decode cL_isFlown 68 = .ok (.aload_n 0, 1) := by decide +kernel
theorem dL_isFlown_69 : decode cL_isFlown 69 = .ok (.iload_n 3, 1) := by decide +kernel
theorem dL_isFlown_70 : decode cL_isFlown 70 = .ok (.invokevirtual 92, 3) := by decide +kernel
theorem dL_isFlown_73 : decode cL_isFlown 73 = .ok (.iconst (-1), 1) := by decide +kernel
theorem dL_isFlown_74 : decode cL_isFlown 74 = .ok (.if_icmp .ne 7, 3) := by decide +kernel
theorem dL_isFlown_77 : decode cL_isFlown 77 = .ok (.iconst 1, 1) := by decide +kernel
theorem dL_isFlown_78 : decode cL_isFlown 78 = .ok (.goto 4, 3) := by decide +kernel
theorem dL_isFlown_81 : decode cL_isFlown 81 = .ok (.iconst 0, 1) := by decide +kernel
theorem dL_isFlown_82 : decode cL_isFlown 82 = .ok (.istore 6, 2) := by decide +kernel
theorem dL_isFlown_84 : decode cL_isFlown 84 = .ok (.aload_n 0, 1) := by decide +kernel
theorem dL_isFlown_85 : decode cL_isFlown 85 = .ok (.iload_n 2, 1) := by decide +kernel
theorem dL_isFlown_86 : decode cL_isFlown 86 = .ok (.iload_n 3, 1) := by decide +kernel
theorem dL_isFlown_87 : decode cL_isFlown 87 = .ok (.iload 4, 2) := by decide +kernel
theorem dL_isFlown_89 : decode cL_isFlown 89 = .ok (.invokestatic 95, 3) := by decide +kernel
theorem dL_isFlown_92 : decode cL_isFlown 92 = .ok (.istore 7, 2) := by decide +kernel
theorem dL_isFlown_94 : decode cL_isFlown 94 = .ok (.iload 7, 2) := by decide +kernel
theorem dL_isFlown_96 : decode cL_isFlown 96 = .ok (.ldc 35, 2) := by decide +kernel
theorem dL_isFlown_98 : decode cL_isFlown 98 = .ok (.if_icmp .ne 25, 3) := by decide +kernel
theorem dL_isFlown_101 : decode cL_isFlown 101 = .ok (.aload_n 0, 1) := by decide +kernel
theorem dL_isFlown_102 : decode cL_isFlown 102 = .ok (.iload_n 3, 1) := by decide +kernel
theorem dL_isFlown_103 : decode cL_isFlown 103 = .ok (.invokevirtual 92, 3) := by decide +kernel
theorem dL_isFlown_106 : decode cL_isFlown 106 = .ok (.iload_n 2, 1) := by decide +kernel
theorem dL_isFlown_107 : decode cL_isFlown 107 = .ok (.if_icmp .ne 8, 3) := by decide +kernel
theorem dL_isFlown_110 : decode cL_isFlown 110 = .ok (.iload 6, 2) := by decide +kernel
theorem dL_isFlown_112 : decode cL_isFlown 112 = .ok (.ifCond .ne 7, 3) := by decide +kernel
theorem dL_isFlown_115 : decode cL_isFlown 115 = .ok (.iconst 1, 1) := by decide +kernel
theorem dL_isFlown_116 : decode cL_isFlown 116 = .ok (.goto 47, 3) := by decide +kernel
theorem dL_isFlown_119 : decode cL_isFlown 119 = .ok (.iconst 0, 1) := by decide +kernel
theorem dL_isFlown_120 : decode cL_isFlown 120 = .ok (.goto 43, 3) := by decide +kernel
theorem dL_isFlown_123 : decode cL_isFlown 123 = .ok (.iload 6, 2) := by decide +kernel
theorem dL_isFlown_125 : decode cL_isFlown 125 = .ok (.ifCond .eq 37, 3) := by decide +kernel
theorem dL_isFlown_128 : decode cL_isFlown 128 = .ok (.aload_n 0, 1) := by decide +kernel
theorem dL_isFlown_129 : decode cL_isFlown 129 = .ok (.iload_n 3, 1) := by decide +kernel
theorem dL_isFlown_130 : decode cL_isFlown 130 = .ok (.invokevirtual 92, 3) := by decide +kernel
theorem dL_isFlown_133 : decode cL_isFlown 133 = .ok (.iload_n 2, 1) := by decide +kernel
theorem dL_isFlown_134 : decode cL_isFlown 134 = .ok (.if_icmp .ne 28, 3) := by decide +kernel
theorem dL_isFlown_137 : decode cL_isFlown 137 = .ok (.aload_n 0, 1) := by decide +kernel
theorem dL_isFlown_138 : decode cL_isFlown 138 = .ok (.iload_n 2, 1) := by decide +kernel
theorem dL_isFlown_139 : decode cL_isFlown 139 = .ok (.iconst 4, 1) := by decide +kernel
theorem dL_isFlown_140 : decode cL_isFlown 140 = .ok (.invokevirtual 45, 3) := by decide +kernel
theorem dL_isFlown_143 : decode cL_isFlown 143 = .ok (.iload_n 3, 1) := by decide +kernel
theorem dL_isFlown_144 : decode cL_isFlown 144 = .ok (.if_icmp .ne 18, 3) := by decide +kernel
theorem dL_isFlown_147 : decode cL_isFlown 147 = .ok (.aload_n 0, 1) := by decide +kernel
theorem dL_isFlown_148 : decode cL_isFlown 148 = .ok (.iload_n 2, 1) := by decide +kernel
theorem dL_isFlown_149 : decode cL_isFlown 149 = .ok (.iconst 5, 1) := by decide +kernel
theorem dL_isFlown_150 : decode cL_isFlown 150 = .ok (.invokevirtual 45, 3) := by decide +kernel
theorem dL_isFlown_153 : decode cL_isFlown 153 = .ok (.iload 7, 2) := by decide +kernel
theorem dL_isFlown_155 : decode cL_isFlown 155 = .ok (.if_icmp .ne 7, 3) := by decide +kernel
theorem dL_isFlown_158 : decode cL_isFlown 158 = .ok (.iconst 1, 1) := by decide +kernel
theorem dL_isFlown_159 : decode cL_isFlown 159 = .ok (.goto 4, 3) := by decide +kernel
theorem dL_isFlown_162 : decode cL_isFlown 162 = .ok (.iconst 0, 1) := by decide +kernel
theorem dL_isFlown_163 : decode cL_isFlown 163 = .ok (.ireturn, 1) := by decide +kernel
set_option maxRecDepth 20000 in
theorem ggL_isPassed_X2_about : GoodIn wsL_isPassed wsX2_about := goodIn_ca (goodIn_ca (goodIn_r _ [5, 6, 7, 8, 9, 10, 11, 12, 13, 14, 15, 16, 17, 4, 18, 19, 20, 21, 22, 23, 24, 25, 26, 27, 28, 29, 30, 31, 32, 33, 34, 35, 36, 37, 38, 39, 40, 41, 42, 43, 44, 45, 46, 47, 48, 49, 50, 70, 71, 72, 73, 74, 75, 76, 77, 78, 79, 80, 81, 82, 83, 84, 85, 86, 87] (by decide +kernel) (by decide +kernel)) (goodIn_sub (fun _ h => List.mem_cons_of_mem _ (List.mem_append_left _ (List.mem_append_right _ h))) (by decide +kernel))) (goodIn_sub (fun _ h => List.mem_cons_of_mem _ (List.mem_append_right _ h)) (by decide +kernel))
set_option maxRecDepth 20000 in
theorem gL_isPassed_X2_about : GoodIn wsL_isPassed (wsV RL 45 RX2 yX2_about wsX2_about) := goodIn_app (goodIn_of _ (by decide +kernel)) ggL_isPassed_X2_about
set_option maxRecDepth 20000 in
theorem ggL_isPassed_X2_pass : GoodIn wsL_isPassed wsX2_pass := goodIn_ca (goodIn_r _ [54, 6, 7, 22, 23, 4, 24, 55, 56, 57, 58, 21, 59, 60, 61, 62, 28, 63, 64, 65, 26, 27, 29, 30, 66, 67, 68, 69, 10, 79, 80, 81, 82, 83, 84, 85, 86, 87, 70, 71, 72, 73, 74, 75, 76, 77, 78] (by decide +kernel) (by decide +kernel)) (goodIn_sub (fun _ h => List.mem_cons_of_mem _ (List.mem_append_left _ (List.mem_append_right _ h))) (by decide +kernel))
set_option maxRecDepth 20000 in
theorem gL_isPassed_X2_pass : GoodIn wsL_isPassed (wsV RL 98 RX2 yX2_pass wsX2_pass) := goodIn_app (goodIn_of _ (by decide +kernel)) ggL_isPassed_X2_pass
theorem dL_isPassed_0 : decode cL_isPassed 0 = .ok (.aload_n 0, 1) := by decide +kernel
theorem dL_isPassed_1 : decode cL_isPassed 1 = .ok (.iload_n 2, 1) := by decide +kernel
theorem dL_isPassed_2 : decode cL_isPassed 2 = .ok (.iconst 2, 1) := by decide +kernel
theorem dL_isPassed_3 : decode cL_isPassed 3 = .ok (.invokevirtual 45, 3) := by decide +kernel
theorem dL_isPassed_6 : decode cL_isPassed 6 = .ok (.istore 4, 2) := by decide +kernel
theorem dL_isPassed_8 : decode cL_isPassed 8 = .ok (.aload_n 0, 1) := by decide +kernel
theorem dL_isPassed_9 : decode cL_isPassed 9 = .ok (.iload_n 2, 1) := by decide +kernel
theorem dL_isPassed_10 : decode cL_isPassed 10 = .ok (.iconst 4, 1) := by decide +kernel
theorem dL_isPassed_11 : decode cL_isPassed 11 = .ok (.invokevirtual 45, 3) := by decide +kernel
theorem dL_isPassed_14 : decode cL_isPassed 14 = .ok (.iconst (-1), 1) := by decide +kernel
theorem dL_isPassed_15 : decode cL_isPassed 15 = .ok (.if_icmp .eq 7, 3) := by decide +kernel
theorem dL_isPassed_18 : decode cL_isPassed 18 = .ok (.iconst 1, 1) := by decide +kernel
theorem dL_isPassed_19 : decode cL_isPassed 19 = .ok (.goto 4, 3) := by decide +kernel
theorem dL_isPassed_22 : decode cL_isPassed 22 = .ok (.iconst 0, 1) := by decide +kernel
theorem dL_isPassed_23 : decode cL_isPassed 23 = .ok (.istore 5, 2) := by decide +kernel
theorem dL_isPassed_25 : decode cL_isPassed 25 = .ok (.aload_n 0, 1) := by decide +kernel
theorem dL_isPassed_26 : decode cL_isPassed 26 = .ok (.iload_n 3, 1) := by decide +kernel
theorem dL_isPassed_27 : decode cL_isPassed 27 = .ok (.invokevirtual 98, 3) := by decide +kernel
theorem dL_isPassed_30 : decode cL_isPassed 30 = .ok (.istore 6, 2) := by decide +kernel
theorem dL_isPassed_32 : decode cL_isPassed 32 = .ok (.iconst 0, 1) := by decide +kernel
theorem dL_isPassed_33 : decode cL_isPassed 33 = .ok (.istore 7, 2) := by decide +kernel
theorem dL_isPassed_35 : decode cL_isPassed 35 = .ok (.iconst 0, 1) := by decide +kernel
theorem dL_isPassed_36 : decode cL_isPassed 36 = .ok (.istore 8, 2) := by decide +kernel
theorem dL_isPassed_38 : decode cL_isPassed 38 = .ok (.iload 8, 2) := by decide +kernel
theorem dL_isPassed_40 : decode cL_isPassed 40 = .ok (.aload_n 1, 1) := by decide +kernel
theorem dL_isPassed_41 : decode cL_isPassed 41 = .ok (.iconst 0, 1) := by decide +kernel
theorem dL_isPassed_42 : decode cL_isPassed 42 = .ok (.iaload, 1) := by decide +kernel
theorem dL_isPassed_43 : decode cL_isPassed 43 = .ok (.if_icmp .ge 29, 3) := by decide +kernel
theorem dL_isPassed_46 : decode cL_isPassed 46 = .ok (.iload 7, 2) := by decide +kernel
theorem dL_isPassed_48 : decode cL_isPassed 48 = .ok (.aload_n 0, 1) := by decide +kernel
theorem dL_isPassed_49 : decode cL_isPassed 49 = .ok (.iload 8, 2) := by decide +kernel
theorem dL_isPassed_51 : decode cL_isPassed 51 = .ok (.iconst 2, 1) := by decide +kernel
theorem dL_isPassed_52 : decode cL_isPassed 52 = .ok (.invokevirtual 45, 3) := by decide +kernel
theorem dL_isPassed_55 : decode cL_isPassed 55 = .ok (.ifCond .le 7, 3) := by decide +kernel
theorem dL_isPassed_58 : decode cL_isPassed 58 = .ok (.iconst 1, 1) := by decide +kernel
theorem dL_isPassed_59 : decode cL_isPassed 59 = .ok (.goto 4, 3) := by decide +kernel
theorem dL_isPassed_62 : decode cL_isPassed 62 = .ok (.iconst 0, 1) := by decide +kernel
theorem dL_isPassed_63 : decode cL_isPassed 63 = .ok (.iadd, 1) := by decide +kernel
theorem dL_isPassed_64 : decode cL_isPassed 64 = .ok (.istore 7, 2) := by decide +kernel
theorem dL_isPassed_66 : decode cL_isPassed 66 = .ok (.iinc 8 1, 3) := by decide +kernel
theorem dL_isPassed_69 : decode cL_isPassed 69 = .ok (.goto (-31), 3) := by decide +kernel
theorem dL_isPassed_72 : decode cL_isPassed 72 = .ok (.iload 6, 2) := by decide +kernel
theorem dL_isPassed_74 : decode cL_isPassed 74 = .ok (.iload 7, 2) := by decide +kernel
theorem dL_isPassed_76 : decode cL_isPassed 76 = .ok (.if_icmp .ne 47, 3) := by decide +kernel
theorem dL_isPassed_79 : decode cL_isPassed 79 = .ok (.aload_n 0, 1) := by decide +kernel
theorem dL_isPassed_80 : decode cL_isPassed 80 = .ok (.iload_n 2, 1) := by decide +kernel
theorem dL_isPassed_81 : decode cL_isPassed 81 = .ok (.iconst 2, 1) := by decide +kernel
theorem dL_isPassed_82 : decode cL_isPassed 82 = .ok (.invokevirtual 45, 3) := by decide +kernel
theorem dL_isPassed_85 : decode cL_isPassed 85 = .ok (.iload 5, 2) := by decide +kernel
theorem dL_isPassed_87 : decode cL_isPassed 87 = .ok (.ifCond .eq 15, 3) := by decide +kernel
theorem dL_isPassed_90 : decode cL_isPassed 90 = .ok (.aload_n 1, 1) := by decide +kernel
theorem dL_isPassed_91 : decode cL_isPassed 91 = .ok (.iconst 2, 1) := by decide +kernel
theorem dL_isPassed_92 : decode cL_isPassed 92 = .ok (.iaload, 1) := by decide +kernel
theorem dL_isPassed_93 : decode cL_isPassed 93 = .ok (.iconst 1, 1) := by decide +kernel
theorem dL_isPassed_94 : decode cL_isPassed 94 = .ok (.if_icmp .ne 8, 3) := by decide +kernel
theorem dL_isPassed_97 : decode cL_isPassed 97 = .ok (.bipush 6, 2) := by decide +kernel
theorem dL_isPassed_99 : decode cL_isPassed 99 = .ok (.goto 17, 3) := by decide +kernel
theorem dL_isPassed_102 : decode cL_isPassed 102 = .ok (.iload 4, 2) := by decide +kernel
theorem dL_isPassed_104 : decode cL_isPassed 104 = .ok (.iload_n 3, 1) := by decide +kernel
theorem dL_isPassed_105 : decode cL_isPassed 105 = .ok (.if_icmp .le 10, 3) := by decide +kernel
theorem dL_isPassed_108 : decode cL_isPassed 108 = .ok (.iload 4, 2) := by decide +kernel
theorem dL_isPassed_110 : decode cL_isPassed 110 = .ok (.iload_n 3, 1) := by decide +kernel
theorem dL_isPassed_111 : decode cL_isPassed 111 = .ok (.isub, 1) := by decide +kernel
theorem dL_isPassed_112 : decode cL_isPassed 112 = .ok (.goto 4, 3) := by decide +kernel
theorem dL_isPassed_115 : decode cL_isPassed 115 = .ok (.iconst 0, 1) := by decide +kernel
theorem dL_isPassed_116 : decode cL_isPassed 116 = .ok (.if_icmp .ne 7, 3) := by decide +kernel
theorem dL_isPassed_119 : decode cL_isPassed 119 = .ok (.iconst 1, 1) := by decide +kernel
theorem dL_isPassed_120 : decode cL_isPassed 120 = .ok (.goto 4, 3) := by decide +kernel
theorem dL_isPassed_123 : decode cL_isPassed 123 = .ok (.iconst 0, 1) := by decide +kernel
theorem dL_isPassed_124 : decode cL_isPassed 124 = .ok (.ireturn, 1) := by decide +kernel
set_option maxRecDepth 20000 in
theorem ggL_isBlown_L_flying : GoodIn wsL_isBlown wsL_flying := goodIn_ca (goodIn_ca (goodIn_r _ [4, 5, 6, 7, 8, 9, 10, 11, 12, 13, 14, 15, 16, 17, 18, 19, 20, 21, 22, 23, 24, 25, 26, 27, 28, 29, 30, 31, 32, 33, 34, 35, 36, 37, 38, 39, 40, 41, 42, 43, 44, 45, 46, 47, 48, 49, 50, 51, 52, 53, 54, 99, 100, 101, 102, 103, 104, 105, 106, 107, 108, 109, 110, 111, 112, 113, 114, 115, 116] (by decide +kernel) (by decide +kernel)) (goodIn_sub (fun _ h => List.mem_cons_of_mem _ (List.mem_append_left _ (List.mem_append_right _ h))) (by decide +kernel))) (goodIn_sub (fun _ h => List.mem_cons_of_mem _ (List.mem_append_right _ h)) (by decide +kernel))
set_option maxRecDepth 20000 in
theorem gL_isBlown_L_flying : GoodIn wsL_isBlown (va_wsS RL 101 yL_flying wsL_flying) := goodIn_app (goodIn_of _ (by decide +kernel)) ggL_isBlown_L_flying
set_option maxRecDepth 20000 in
theorem ggL_isBlown_L_torn : GoodIn wsL_isBlown wsL_torn := goodIn_ca (goodIn_ca (goodIn_r _ [57, 5, 6, 7, 8, 9, 10, 11, 12, 13, 14, 15, 16, 17, 18, 19, 20, 21, 22, 23, 24, 25, 26, 27, 28, 29, 30, 31, 32, 33, 34, 35, 36, 37, 38, 39, 40, 41, 42, 43, 44, 45, 46, 47, 48, 49, 50, 51, 52, 53, 54, 99, 100, 101, 102, 103, 104, 105, 106, 107, 108, 109, 110, 111, 112, 113, 114, 115, 116] (by decide +kernel) (by decide +kernel)) (goodIn_sub (fun _ h => List.mem_cons_of_mem _ (List.mem_append_left _ (List.mem_append_right _ h))) (by decide +kernel))) (goodIn_sub (fun _ h => List.mem_cons_of_mem _ (List.mem_append_right _ h)) (by decide +kernel))
set_option maxRecDepth 20000 in
theorem gL_isBlown_L_torn : GoodIn wsL_isBlown (va_wsS RL 105 yL_torn wsL_torn) := goodIn_app (goodIn_of _ (by decide +kernel)) ggL_isBlown_L_torn
set_option maxRecDepth 20000 in
theorem ggL_isBlown_X2_called : GoodIn wsL_isBlown wsX2_called := goodIn_r _ [61, 62, 108, 109, 110, 111, 112, 113, 114, 115, 116] (by decide +kernel) (by decide +kernel)
set_option maxRecDepth 20000 in
theorem gL_isBlown_X2_called : GoodIn wsL_isBlown (wsV RL 71 RX2 yX2_called wsX2_called) := goodIn_app (goodIn_of _ (by decide +kernel)) ggL_isBlown_X2_called
set_option maxRecDepth 20000 in
theorem ggL_isBlown_X2_wind : GoodIn wsL_isBlown wsX2_wind := goodIn_ca (goodIn_r _ [66, 10, 11, 17, 18, 62, 67, 68, 8, 69, 26, 27, 28, 70, 71, 72, 73, 74, 13, 75, 76, 77, 32, 78, 44, 45, 46, 47, 48, 49, 50, 51, 52, 53, 54, 79, 80, 81, 82, 83, 84, 85, 86, 87, 16, 88, 89, 90, 91, 92, 93, 94, 95, 96, 97, 98, 35, 36, 37, 38, 34, 39, 40, 41, 42, 43, 108, 109, 110, 111, 112, 113, 114, 115, 116, 99, 100, 101, 102, 103, 104, 105, 106, 107] (by decide +kernel) (by decide +kernel)) (goodIn_sub (fun _ h => List.mem_cons_of_mem _ (List.mem_append_left _ (List.mem_append_right _ h))) (by decide +kernel))
set_option maxRecDepth 20000 in
theorem gL_isBlown_X2_wind : GoodIn wsL_isBlown (wsV RL 108 RX2 yX2_wind wsX2_wind) := goodIn_app (goodIn_of _ (by decide +kernel)) ggL_isBlown_X2_wind
theorem dL_isBlown_0 : decode cL_isBlown 0 = .ok (.aload_n 0, 1) := by decide +kernel
theorem dL_isBlown_1 : decode cL_isBlown 1 = .ok (.aload_n 1, 1) := by decide +kernel
theorem dL_isBlown_2 : decode cL_isBlown 2 = .ok (.invokestatic 101, 3) := by decide +kernel
theorem dL_isBlown_5 : decode cL_isBlown 5 = .ok (.istore 4, 2) := by decide +kernel
theorem dL_isBlown_7 : decode cL_isBlown 7 = .ok (.aload_n 0, 1) := by decide +kernel
theorem dL_isBlown_8 : decode cL_isBlown 8 = .ok (.aload_n 1, 1) := by decide +kernel
theorem dL_isBlown_9 : decode cL_isBlown 9 = .ok (.invokestatic 105, 3) := by decide +kernel
theorem dL_isBlown_12 : decode cL_isBlown 12 = .ok (.istore 5, 2) := by decide +kernel
theorem dL_isBlown_14 : decode cL_isBlown 14 = .ok (.aload_n 0, 1) := by decide +kernel
theorem dL_isBlown_15 : decode cL_isBlown 15 = .ok (.invokevirtual 71, 3) := by decide +kernel
theorem dL_isBlown_18 : decode cL_isBlown 18 = .ok (.istore 6, 2) := by decide +kernel
theorem dL_isBlown_20 : decode cL_isBlown 20 = .ok (.aload_n 0, 1) := by decide +kernel
theorem dL_isBlown_21 : decode cL_isBlown 21 = .ok (.iload_n 2, 1) := by decide +kernel
theorem dL_isBlown_22 : decode cL_isBlown 22 = .ok (.iload_n 3, 1) := by decide +kernel
theorem dL_isBlown_23 : decode cL_isBlown 23 = .ok (.invokevirtual 108, 3) := by decide +kernel
theorem dL_isBlown_26 : decode cL_isBlown 26 = .ok (.istore 7, 2) := by decide +kernel
theorem dL_isBlown_28 : decode cL_isBlown 28 = .ok (.aload_n 1, 1) := by decide +kernel
theorem dL_isBlown_29 : decode cL_isBlown 29 = .ok (.iconst 3, 1) := by decide +kernel
theorem dL_isBlown_30 : decode cL_isBlown 30 = .ok (.iload_n 2, 1) := by decide +kernel
theorem dL_isBlown_31 : decode cL_isBlown 31 = .ok (.iastore, 1) := by decide +kernel
theorem dL_isBlown_32 : decode cL_isBlown 32 = .ok (.iload 7, 2) := by decide +kernel
theorem dL_isBlown_34 : decode cL_isBlown 34 = .ok (.iload 4, 2) := by decide +kernel
theorem dL_isBlown_36 : decode cL_isBlown 36 = .ok (.aload_n 0, 1) := by decide +kernel
theorem dL_isBlown_37 : decode cL_isBlown 37 = .ok (.aload_n 1, 1) := by decide +kernel
theorem dL_isBlown_38 : decode cL_isBlown 38 = .ok (.invokestatic 101, 3) := by decide +kernel
theorem dL_isBlown_41 : decode cL_isBlown 41 = .ok (.isub, 1) := by decide +kernel
theorem dL_isBlown_42 : decode cL_isBlown 42 = .ok (.if_icmp .ne 42, 3) := by decide +kernel
theorem dL_isBlown_45 : decode cL_isBlown 45 = .ok (.aload_n 0, 1) := by decide +kernel
theorem dL_isBlown_46 : decode cL_isBlown 46 = .ok (.invokevirtual 71, 3) := by decide +kernel
theorem dL_isBlown_49 : decode cL_isBlown 49 = .ok (.iload 6, 2) := by decide +kernel
theorem dL_isBlown_51 : decode cL_isBlown 51 = .ok (.iload 7, 2) := by decide +kernel
theorem dL_isBlown_53 : decode cL_isBlown 53 = .ok (.iadd, 1) := by decide +kernel
theorem dL_isBlown_54 : decode cL_isBlown 54 = .ok (.if_icmp .ne 30, 3) := by decide +kernel
theorem dL_isBlown_57 : decode cL_isBlown 57 = .ok (.aload_n 0, 1) := by decide +kernel
theorem dL_isBlown_58 : decode cL_isBlown 58 = .ok (.aload_n 1, 1) := by decide +kernel
theorem dL_isBlown_59 : decode cL_isBlown 59 = .ok (.invokestatic 105, 3) := by decide +kernel
theorem dL_isBlown_62 : decode cL_isBlown 62 = .ok (.iload 5, 2) := by decide +kernel
theorem dL_isBlown_64 : decode cL_isBlown 64 = .ok (.isub, 1) := by decide +kernel
theorem dL_isBlown_65 : decode cL_isBlown 65 = .ok (.iload 7, 2) := by decide +kernel
theorem dL_isBlown_67 : decode cL_isBlown 67 = .ok (.if_icmp .gt 17, 3) := by decide +kernel
theorem dL_isBlown_70 : decode cL_isBlown 70 = .ok (.aload_n 0, 1) := by decide +kernel
theorem dL_isBlown_71 : decode cL_isBlown 71 = .ok (.aload_n 1, 1) := by decide +kernel
theorem dL_isBlown_72 : decode cL_isBlown 72 = .ok (.invokestatic 105, 3) := by decide +kernel
theorem dL_isBlown_75 : decode cL_isBlown 75 = .ok (.iload 5, 2) := by decide +kernel
theorem dL_isBlown_77 : decode cL_isBlown 77 = .ok (.if_icmp .lt 7, 3) := by decide +kernel
theorem dL_isBlown_80 : decode cL_isBlown 80 = .ok (.iconst 1, 1) := by decide +kernel
theorem dL_isBlown_81 : decode cL_isBlown 81 = .ok (.goto 4, 3) := by decide +kernel
theorem dL_isBlown_84 : decode cL_isBlown 84 = .ok (.iconst 0, 1) := by decide +kernel
theorem dL_isBlown_85 : decode cL_isBlown 85 = .ok (.ireturn, 1) := by decide +kernel
set_option maxRecDepth 20000 in
theorem ggL_flying_X2_about : GoodIn wsL_flying wsX2_about := goodIn_ca (goodIn_ca (goodIn_r _ [5, 6, 7, 8, 9, 10, 11, 12, 13, 14, 15, 16, 17, 4, 18, 19, 20, 21, 22, 23, 24, 25, 26, 27, 28, 29, 30, 31, 32, 33, 34, 35, 36, 37, 38, 39, 40, 41, 42, 43, 44, 45, 46, 47, 48, 49, 50, 51, 52, 53, 54, 55, 56, 57, 58, 59, 60, 61, 62, 63, 64, 65, 66, 67, 68] (by decide +kernel) (by decide +kernel)) (goodIn_sub (fun _ h => List.mem_cons_of_mem _ (List.mem_append_left _ (List.mem_append_right _ h))) (by decide +kernel))) (goodIn_sub (fun _ h => List.mem_cons_of_mem _ (List.mem_append_right _ h)) (by decide +kernel))
set_option maxRecDepth 20000 in
theorem gL_flying_X2_about : GoodIn wsL_flying (wsV RL 45 RX2 yX2_about wsX2_about) := goodIn_app (goodIn_of _ (by decide +kernel)) ggL_flying_X2_about
theorem dL_flying_0 : decode cL_flying 0 = .ok (.iconst 0, 1) := by decide +kernel
theorem dL_flying_1 : decode cL_flying 1 = .ok (.istore_n 2, 1) := by decide +kernel
theorem dL_flying_2 : decode cL_flying 2 = .ok (.iconst 0, 1) := by decide +kernel
theorem dL_flying_3 : decode cL_flying 3 = .ok (.istore_n 3, 1) := by decide +kernel
theorem dL_flying_4 : decode cL_flying 4 = .ok (.iload_n 3, 1) := by decide +kernel
theorem dL_flying_5 : decode cL_flying 5 = .ok (.aload_n 1, 1) := by decide +kernel
theorem dL_flying_6 : decode cL_flying 6 = .ok (.iconst 0, 1) := by decide +kernel
theorem dL_flying_7 : decode cL_flying 7 = .ok (.iaload, 1) := by decide +kernel
theorem dL_flying_8 : decode cL_flying 8 = .ok (.if_icmp .ge 27, 3) := by decide +kernel
theorem dL_flying_11 : decode cL_flying 11 = .ok (.iload_n 2, 1) := by decide +kernel
theorem dL_flying_12 : decode cL_flying 12 = .ok (.aload_n 0, 1) := by decide +kernel
theorem dL_flying_13 : decode cL_flying 13 = .ok (.iload_n 3, 1) := by decide +kernel
theorem dL_flying_14 : decode cL_flying 14 = .ok (.iconst 4, 1) := by decide +kernel
theorem dL_flying_15 : decode cL_flying 15 = .ok (.invokevirtual 45, 3) := by decide +kernel
theorem dL_flying_18 : decode cL_flying 18 = .ok (.iconst (-1), 1) := by decide +kernel
theorem dL_flying_19 : decode cL_flying 19 = .ok (.if_icmp .ne 7, 3) := by decide +kernel
theorem dL_flying_22 : decode cL_flying 22 = .ok (.iconst 0, 1) := by decide +kernel
theorem dL_flying_23 : decode cL_flying 23 = .ok (.goto 4, 3) := by decide +kernel
theorem dL_flying_26 : decode cL_flying 26 = .ok (.iconst 1, 1) := by decide +kernel
theorem dL_flying_27 : decode cL_flying 27 = .ok (.iadd, 1) := by decide +kernel
theorem dL_flying_28 : decode cL_flying 28 = .ok (.istore_n 2, 1) := by decide +kernel
theorem dL_flying_29 : decode cL_flying 29 = .ok (.iinc 3 1, 3) := by decide +kernel
theorem dL_flying_32 : decode cL_flying 32 = .ok (.goto (-28), 3) := by decide +kernel
theorem dL_flying_35 : decode cL_flying 35 = .ok (.iload_n 2, 1) := by decide +kernel
theorem dL_flying_36 : decode cL_flying 36 = .ok (.ireturn, 1) := by decide +kernel
set_option maxRecDepth 20000 in
theorem ggL_torn_X2_about : GoodIn wsL_torn wsX2_about := goodIn_ca (goodIn_ca (goodIn_r _ [5, 6, 7, 8, 9, 10, 11, 12, 13, 14, 15, 16, 17, 4, 18, 19, 20, 21, 22, 23, 24, 25, 26, 27, 28, 29, 30, 31, 32, 33, 34, 35, 36, 37, 38, 39, 40, 41, 42, 43, 44, 45, 46, 47, 48, 49, 50, 51, 52, 53, 54, 55, 56, 57, 58, 59, 60, 61, 62, 63, 64, 65, 66, 67, 68] (by decide +kernel) (by decide +kernel)) (goodIn_sub (fun _ h => List.mem_cons_of_mem _ (List.mem_append_left _ (List.mem_append_right _ h))) (by decide +kernel))) (goodIn_sub (fun _ h => List.mem_cons_of_mem _ (List.mem_append_right _ h)) (by decide +kernel))
set_option maxRecDepth 20000 in
theorem gL_torn_X2_about : GoodIn wsL_torn (wsV RL 45 RX2 yX2_about wsX2_about) := goodIn_app (goodIn_of _ (by decide +kernel)) ggL_torn_X2_about
theorem dL_torn_0 : decode cL_torn 0 = .ok (.iconst 0, 1) := by decide +kernel
theorem dL_torn_1 : decode cL_torn 1 = .ok (.istore_n 2, 1) := by decide +kernel
theorem dL_torn_2 : decode cL_torn 2 = .ok (.iconst 0, 1) := by decide +kernel
theorem dL_torn_3 : decode cL_torn 3 = .ok (.istore_n 3, 1) := by decide +kernel
theorem dL_torn_4 : decode cL_torn 4 = .ok (.iload_n 3, 1) := by decide +kernel
theorem dL_torn_5 : decode cL_torn 5 = .ok (.aload_n 1, 1) := by decide +kernel
theorem dL_torn_6 : decode cL_torn 6 = .ok (.iconst 0, 1) := by decide +kernel
theorem dL_torn_7 : decode cL_torn 7 = .ok (.iaload, 1) := by decide +kernel
theorem dL_torn_8 : decode cL_torn 8 = .ok (.if_icmp .ge 18, 3) := by decide +kernel
theorem dL_torn_11 : decode cL_torn 11 = .ok (.iload_n 2, 1) := by decide +kernel
theorem dL_torn_12 : decode cL_torn 12 = .ok (.aload_n 0, 1) := by decide +kernel
theorem dL_torn_13 : decode cL_torn 13 = .ok (.iload_n 3, 1) := by decide +kernel
theorem dL_torn_14 : decode cL_torn 14 = .ok (.iconst 1, 1) := by decide +kernel
theorem dL_torn_15 : decode cL_torn 15 = .ok (.invokevirtual 45, 3) := by decide +kernel
theorem dL_torn_18 : decode cL_torn 18 = .ok (.iadd, 1) := by decide +kernel
theorem dL_torn_19 : decode cL_torn 19 = .ok (.istore_n 2, 1) := by decide +kernel
theorem dL_torn_20 : decode cL_torn 20 = .ok (.iinc 3 1, 3) := by decide +kernel
theorem dL_torn_23 : decode cL_torn 23 = .ok (.goto (-19), 3) := by decide +kernel
theorem dL_torn_26 : decode cL_torn 26 = .ok (.iload_n 2, 1) := by decide +kernel
theorem dL_torn_27 : decode cL_torn 27 = .ok (.ireturn, 1) := by decide +kernel
set_option maxRecDepth 20000 in
theorem ggL_isWhole_X2_lane : GoodIn wsL_isWhole wsX2_lane := goodIn_ca (goodIn_r _ [6, 7, 8, 9, 10, 11, 12, 5, 13, 14, 15, 16, 89, 90, 91, 92, 93, 94, 95, 96, 97, 98, 99, 100, 101, 102, 103, 104, 105, 106] (by decide +kernel) (by decide +kernel)) (goodIn_sub (fun _ h => List.mem_cons_of_mem _ (List.mem_append_left _ (List.mem_append_right _ h))) (by decide +kernel))
set_option maxRecDepth 20000 in
theorem gL_isWhole_X2_lane : GoodIn wsL_isWhole (wsV RL 92 RX2 yX2_lane wsX2_lane) := goodIn_app (goodIn_of _ (by decide +kernel)) ggL_isWhole_X2_lane
set_option maxRecDepth 20000 in
theorem ggL_isWhole_X2_pull : GoodIn wsL_isWhole wsX2_pull := goodIn_ca (goodIn_ca (goodIn_r _ [20, 21, 22, 23, 24, 25, 5, 26, 7, 8, 27, 14, 15, 16, 28, 29, 30, 31, 32, 33, 34, 35, 36, 37, 38, 39, 40, 41, 42, 89, 90, 91, 92, 93, 94, 95, 96, 97, 98, 99, 100, 101, 102, 103, 104, 105, 106] (by decide +kernel) (by decide +kernel)) (goodIn_sub (fun _ h => List.mem_cons_of_mem _ (List.mem_append_right _ h)) (by decide +kernel))) (goodIn_sub (fun _ h => List.mem_cons_of_mem _ (List.mem_append_left _ (List.mem_append_right _ h))) (by decide +kernel))
set_option maxRecDepth 20000 in
theorem gL_isWhole_X2_pull : GoodIn wsL_isWhole (wsV RL 49 RX2 yX2_pull wsX2_pull) := goodIn_app (goodIn_of _ (by decide +kernel)) ggL_isWhole_X2_pull
set_option maxRecDepth 20000 in
theorem ggL_isWhole_X2_about : GoodIn wsL_isWhole wsX2_about := goodIn_ca (goodIn_ca (goodIn_r _ [46, 21, 22, 47, 48, 49, 50, 51, 52, 53, 23, 24, 25, 5, 26, 7, 8, 27, 14, 15, 16, 54, 55, 56, 34, 57, 58, 59, 60, 61, 62, 63, 64, 65, 66, 67, 68, 32, 33, 35, 36, 37, 38, 39, 40, 41, 42, 98, 99, 100, 101, 102, 103, 104, 105, 106, 89, 90, 91, 92, 93, 94, 95, 96, 97] (by decide +kernel) (by decide +kernel)) (goodIn_sub (fun _ h => List.mem_cons_of_mem _ (List.mem_append_right _ h)) (by decide +kernel))) (goodIn_sub (fun _ h => List.mem_cons_of_mem _ (List.mem_append_left _ (List.mem_append_right _ h))) (by decide +kernel))
set_option maxRecDepth 20000 in
theorem gL_isWhole_X2_about : GoodIn wsL_isWhole (wsV RL 45 RX2 yX2_about wsX2_about) := goodIn_app (goodIn_of _ (by decide +kernel)) ggL_isWhole_X2_about
set_option maxRecDepth 20000 in
theorem ggL_isWhole_X2_pullAnew : GoodIn wsL_isWhole wsX2_pullAnew := goodIn_ca (goodIn_ca (goodIn_r _ [72, 21, 22, 23, 24, 25, 5, 26, 7, 8, 27, 14, 15, 16, 28, 29, 30, 73, 74, 75, 34, 76, 36, 77, 78, 79, 80, 41, 42, 89, 90, 91, 92, 93, 94, 95, 96, 97, 98, 99, 100, 101, 102, 103, 104, 105, 106] (by decide +kernel) (by decide +kernel)) (goodIn_sub (fun _ h => List.mem_cons_of_mem _ (List.mem_append_right _ h)) (by decide +kernel))) (goodIn_sub (fun _ h => List.mem_cons_of_mem _ (List.mem_append_left _ (List.mem_append_right _ h))) (by decide +kernel))
set_option maxRecDepth 20000 in
theorem gL_isWhole_X2_pullAnew : GoodIn wsL_isWhole (wsV RL 112 RX2 yX2_pullAnew wsX2_pullAnew) := goodIn_app (goodIn_of _ (by decide +kernel)) ggL_isWhole_X2_pullAnew
set_option maxRecDepth 20000 in
theorem ggL_isWhole_X2_window : GoodIn wsL_isWhole wsX2_window := goodIn_ca (goodIn_r _ [84, 23, 24, 25, 5, 26, 7, 8, 27, 14, 15, 16, 85, 86, 87, 34, 88, 68, 32, 33, 35, 36, 37, 38, 39, 40, 41, 42, 89, 90, 91, 92, 93, 94, 95, 96, 97, 98, 99, 100, 101, 102, 103, 104, 105, 106] (by decide +kernel) (by decide +kernel)) (goodIn_sub (fun _ h => List.mem_cons_of_mem _ (List.mem_append_left _ (List.mem_append_right _ h))) (by decide +kernel))
set_option maxRecDepth 20000 in
theorem gL_isWhole_X2_window : GoodIn wsL_isWhole (wsV RL 115 RX2 yX2_window wsX2_window) := goodIn_app (goodIn_of _ (by decide +kernel)) ggL_isWhole_X2_window
end
section
theorem dL_isWhole_0 : decode cL_isWhole 0 = .ok (.iconst 1, 1) := by decide +kernel
theorem dL_isWhole_1 : decode cL_isWhole 1 = .ok (.istore_n 3, 1) := by decide +kernel
theorem dL_isWhole_2 : decode cL_isWhole 2 = .ok (.ldc 111, 2) := by decide +kernel
theorem dL_isWhole_4 : decode cL_isWhole 4 = .ok (.istore 4, 2) := by decide +kernel
theorem dL_isWhole_6 : decode cL_isWhole 6 = .ok (.iconst 0, 1) := by decide +kernel
theorem dL_isWhole_7 : decode cL_isWhole 7 = .ok (.istore 5, 2) := by decide +kernel
theorem dL_isWhole_9 : decode cL_isWhole 9 = .ok (.iconst 0, 1) := by decide +kernel
theorem dL_isWhole_10 : decode cL_isWhole 10 = .ok (.istore 6, 2) := by decide +kernel
theorem dL_isWhole_12 : decode cL_isWhole 12 = .ok (.iload 6, 2) := by decide +kernel
theorem dL_isWhole_14 : decode cL_isWhole 14 = .ok (.bipush 10, 2) := by decide +kernel
theorem dL_isWhole_16 : decode cL_isWhole 16 = .ok (.if_icmp .ge 113, 3) := by decide +kernel
theorem dL_isWhole_19 : decode cL_isWhole 19 = .ok (.iload_n 3, 1) := by decide +kernel
theorem dL_isWhole_20 : decode cL_isWhole 20 = .ok (.ifCond .eq 109, 3) := by decide +kernel
theorem dL_isWhole_23 : decode cL_isWhole 23 = .ok (.aload_n 0, 1) := by decide +kernel
theorem dL_isWhole_24 : decode cL_isWhole 24 = .ok (.iload 6, 2) := by decide +kernel
theorem dL_isWhole_26 : decode cL_isWhole 26 = .ok (.invokevirtual 92, 3) := by decide +kernel
theorem dL_isWhole_29 : decode cL_isWhole 29 = .ok (.istore 7, 2) := by decide +kernel
theorem dL_isWhole_31 : decode cL_isWhole 31 = .ok (.iload 7, 2) := by decide +kernel
theorem dL_isWhole_33 : decode cL_isWhole 33 = .ok (.iconst (-1), 1) := by decide +kernel
theorem dL_isWhole_34 : decode cL_isWhole 34 = .ok (.if_icmp .eq 89, 3) := by decide +kernel
theorem dL_isWhole_37 : decode cL_isWhole 37 = .ok (.aload_n 0, 1) := by decide +kernel
theorem dL_isWhole_38 : decode cL_isWhole 38 = .ok (.iload 7, 2) := by decide +kernel
theorem dL_isWhole_40 : decode cL_isWhole 40 = .ok (.aload_n 1, 1) := by decide +kernel
theorem dL_isWhole_41 : decode cL_isWhole 41 = .ok (.iconst 3, 1) := by decide +kernel
theorem dL_isWhole_42 : decode cL_isWhole 42 = .ok (.iaload, 1) := by decide +kernel
theorem dL_isWhole_43 : decode cL_isWhole 43 = .ok (.invokevirtual 49, 3) := by decide +kernel
theorem dL_isWhole_46 : decode cL_isWhole 46 = .ok (.istore 8, 2) := by decide +kernel
theorem dL_isWhole_48 : decode cL_isWhole 48 = .ok (.aload_n 0, 1) := by decide +kernel
theorem dL_isWhole_49 : decode cL_isWhole 49 = .ok (.iload 7, 2) := by decide +kernel
theorem dL_isWhole_51 : decode cL_isWhole 51 = .ok (.iconst 4, 1) := by decide +kernel
theorem dL_isWhole_52 : decode cL_isWhole 52 = .ok (.invokevirtual 45, 3) := by decide +kernel
theorem dL_isWhole_55 : decode cL_isWhole 55 = .ok (.iload 6, 2) := by decide +kernel
theorem dL_isWhole_57 : decode cL_isWhole 57 = .ok (.if_icmp .ne 55, 3) := by decide +kernel
theorem dL_isWhole_60 : decode cL_isWhole 60 = .ok (.aload_n 0, 1) := by decide +kernel
theorem dL_isWhole_61 : decode cL_isWhole 61 = .ok (.iload 7, 2) := by decide +kernel
theorem dL_isWhole_63 : decode cL_isWhole 63 = .ok (.iconst 1, 1) := by decide +kernel
theorem dL_isWhole_64 : decode cL_isWhole 64 = .ok (.invokevirtual 45, 3) := by decide +kernel
theorem dL_isWhole_67 : decode cL_isWhole 67 = .ok (.ifCond .ne 45, 3) := by decide +kernel
theorem dL_isWhole_70 : decode cL_isWhole 70 = .ok (.aload_n 0, 1) := by decide +kernel
theorem dL_isWhole_71 : decode cL_isWhole 71 = .ok (.iload 7, 2) := by decide +kernel
theorem dL_isWhole_73 : decode cL_isWhole 73 = .ok (.iconst 3, 1) := by decide +kernel
theorem dL_isWhole_74 : decode cL_isWhole 74 = .ok (.invokevirtual 45, 3) := by decide +kernel
theorem dL_isWhole_77 : decode cL_isWhole 77 = .ok (.iconst (-1), 1) := by decide +kernel
theorem dL_isWhole_78 : decode cL_isWhole 78 = .ok (.if_icmp .eq 34, 3) := by decide +kernel
theorem dL_isWhole_81 : decode cL_isWhole 81 = .ok (.iload 8, 2) := by decide +kernel
theorem dL_isWhole_83 : decode cL_isWhole 83 = .ok (.bipush 100, 2) := by decide +kernel
theorem dL_isWhole_85 : decode cL_isWhole 85 = .ok (.if_icmp .lt 27, 3) := by decide +kernel
theorem dL_isWhole_88 : decode cL_isWhole 88 = .ok (.iload 8, 2) := by decide +kernel
theorem dL_isWhole_90 : decode cL_isWhole 90 = .ok (.sipush 6000, 3) := by decide +kernel
theorem dL_isWhole_93 : decode cL_isWhole 93 = .ok (.if_icmp .gt 19, 3) := by decide +kernel
theorem dL_isWhole_96 : decode cL_isWhole 96 = .ok (.aload_n 0, 1) := by decide +kernel
theorem dL_isWhole_97 : decode cL_isWhole 97 = .ok (.iload 7, 2) := by decide +kernel
theorem dL_isWhole_99 : decode cL_isWhole 99 = .ok (.iconst 5, 1) := by decide +kernel
theorem dL_isWhole_100 : decode cL_isWhole 100 = .ok (.invokevirtual 45, 3) := by decide +kernel
theorem dL_isWhole_103 : decode cL_isWhole 103 = .ok (.iload 4, 2) := by decide +kernel
theorem dL_isWhole_105 : decode cL_isWhole 105 = .ok (.if_icmp .le 7, 3) := by decide +kernel
theorem dL_isWhole_108 : decode cL_isWhole 108 = .ok (.iconst 1, 1) := by decide +kernel
theorem dL_isWhole_109 : decode cL_isWhole 109 = .ok (.goto 4, 3) := by decide +kernel
theorem dL_isWhole_112 : decode cL_isWhole 112 = .ok (.iconst 0, 1) := by decide +kernel
theorem dL_isWhole_113 : decode cL_isWhole 113 = .ok (.istore_n 3, 1) := by decide +kernel
theorem dL_isWhole_114 : decode cL_isWhole 114 = .ok (.aload_n 0, 1) := by decide +kernel
theorem dL_isWhole_115 : decode cL_isWhole 115 = .ok (.iload 7, 2) := by decide +kernel
theorem dL_isWhole_117 : decode cL_isWhole 117 = .ok (.iconst 5, 1) := by decide +kernel
theorem dL_isWhole_118 : decode cL_isWhole 118 = .ok (.invokevirtual 45, 3) := by decide +kernel
theorem dL_isWhole_121 : decode cL_isWhole 121 = .ok (.istore 4, 2) := by decide +kernel
theorem dL_isWhole_123 : decode cL_isWhole 123 = .ok (.iinc 6 1, 3) := by decide +kernel
theorem dL_isWhole_126 : decode cL_isWhole 126 = .ok (.goto (-114), 3) := by decide +kernel
theorem dL_isWhole_129 : decode cL_isWhole 129 = .ok (.iconst 0, 1) := by decide +kernel
theorem dL_isWhole_130 : decode cL_isWhole 130 = .ok (.istore 6, 2) := by decide +kernel
theorem dL_isWhole_132 : decode cL_isWhole 132 = .ok (.iload 6, 2) := by decide +kernel
theorem dL_isWhole_134 : decode cL_isWhole 134 = .ok (.aload_n 1, 1) := by decide +kernel
theorem dL_isWhole_135 : decode cL_isWhole 135 = .ok (.iconst 0, 1) := by decide +kernel
theorem dL_isWhole_136 : decode cL_isWhole 136 = .ok (.iaload, 1) := by decide +kernel
theorem dL_isWhole_137 : decode cL_isWhole 137 = .ok (.if_icmp .ge 270, 3) := by decide +kernel
theorem dL_isWhole_140 : decode cL_isWhole 140 = .ok (.iload_n 3, 1) := by decide +kernel
theorem dL_isWhole_141 : decode cL_isWhole 141 = .ok (.ifCond .eq 266, 3) := by decide +kernel
theorem dL_isWhole_144 : decode cL_isWhole 144 = .ok (.aload_n 0, 1) := by decide +kernel
theorem dL_isWhole_145 : decode cL_isWhole 145 = .ok (.iload 6, 2) := by decide +kernel
theorem dL_isWhole_147 : decode cL_isWhole 147 = .ok (.iconst 3, 1) := by decide +kernel
theorem dL_isWhole_148 : decode cL_isWhole 148 = .ok (.invokevirtual 45, 3) := by decide +kernel
theorem dL_isWhole_151 : decode cL_isWhole 151 = .ok (.istore 7, 2) := by decide +kernel
theorem dL_isWhole_153 : decode cL_isWhole 153 = .ok (.iload 7, 2) := by decide +kernel
theorem dL_isWhole_155 : decode cL_isWhole 155 = .ok (.iconst (-1), 1) := by decide +kernel
theorem dL_isWhole_156 : decode cL_isWhole 156 = .ok (.if_icmp .eq 13, 3) := by decide +kernel
theorem dL_isWhole_159 : decode cL_isWhole 159 = .ok (.iload 5, 2) := by decide +kernel
theorem dL_isWhole_161 : decode cL_isWhole 161 = .ok (.iload 7, 2) := by decide +kernel
theorem dL_isWhole_163 : decode cL_isWhole 163 = .ok (.ishr, 1) := by decide +kernel
theorem dL_isWhole_164 : decode cL_isWhole 164 = .ok (.iconst 1, 1) := by decide +kernel
theorem dL_isWhole_165 : decode cL_isWhole 165 = .ok (.iand, 1) := by decide +kernel
theorem dL_isWhole_166 : decode cL_isWhole 166 = .ok (.ifCond .ne 7, 3) := by decide +kernel
theorem dL_isWhole_169 : decode cL_isWhole 169 = .ok (.iconst 1, 1) := by decide +kernel
theorem dL_isWhole_170 : decode cL_isWhole 170 = .ok (.goto 4, 3) := by decide +kernel
theorem dL_isWhole_173 : decode cL_isWhole 173 = .ok (.iconst 0, 1) := by decide +kernel
theorem dL_isWhole_174 : decode cL_isWhole 174 = .ok (.istore_n 3, 1) := by decide +kernel
theorem dL_isWhole_175 : decode cL_isWhole 175 = .ok (.iload 5, 2) := by decide +kernel
theorem dL_isWhole_177 : decode cL_isWhole 177 = .ok (.iload 7, 2) := by decide +kernel
theorem dL_isWhole_179 : decode cL_isWhole 179 = .ok (.iconst (-1), 1) := by decide +kernel
theorem dL_isWhole_180 : decode cL_isWhole 180 = .ok (.if_icmp .ne 7, 3) := by decide +kernel
theorem dL_isWhole_183 : decode cL_isWhole 183 = .ok (.iconst 0, 1) := by decide +kernel
theorem dL_isWhole_184 : decode cL_isWhole 184 = .ok (.goto 7, 3) := by decide +kernel
theorem dL_isWhole_187 : decode cL_isWhole 187 = .ok (.iconst 1, 1) := by decide +kernel
theorem dL_isWhole_188 : decode cL_isWhole 188 = .ok (.iload 7, 2) := by decide +kernel
theorem dL_isWhole_190 : decode cL_isWhole 190 = .ok (.ishl, 1) := by decide +kernel
theorem dL_isWhole_191 : decode cL_isWhole 191 = .ok (.ior, 1) := by decide +kernel
theorem dL_isWhole_192 : decode cL_isWhole 192 = .ok (.istore 5, 2) := by decide +kernel
theorem dL_isWhole_194 : decode cL_isWhole 194 = .ok (.iload_n 3, 1) := by decide +kernel
theorem dL_isWhole_195 : decode cL_isWhole 195 = .ok (.ifCond .eq 84, 3) := by decide +kernel
theorem dL_isWhole_198 : decode cL_isWhole 198 = .ok (.aload_n 0, 1) := by decide +kernel
theorem dL_isWhole_199 : decode cL_isWhole 199 = .ok (.iload 6, 2) := by decide +kernel
theorem dL_isWhole_201 : decode cL_isWhole 201 = .ok (.iconst 2, 1) := by decide +kernel
theorem dL_isWhole_202 : decode cL_isWhole 202 = .ok (.invokevirtual 45, 3) := by decide +kernel
theorem dL_isWhole_205 : decode cL_isWhole 205 = .ok (.ifCond .lt 74, 3) := by decide +kernel
theorem dL_isWhole_208 : decode cL_isWhole 208 = .ok (.aload_n 0, 1) := by decide +kernel
theorem dL_isWhole_209 : decode cL_isWhole 209 = .ok (.iload 6, 2) := by decide +kernel
theorem dL_isWhole_211 : decode cL_isWhole 211 = .ok (.iconst 2, 1) := by decide +kernel
theorem dL_isWhole_212 : decode cL_isWhole 212 = .ok (.invokevirtual 45, 3) := by decide +kernel
theorem dL_isWhole_215 : decode cL_isWhole 215 = .ok (.bipush 6, 2) := by decide +kernel
theorem dL_isWhole_217 : decode cL_isWhole 217 = .ok (.if_icmp .gt 62, 3) := by decide +kernel
theorem dL_isWhole_220 : decode cL_isWhole 220 = .ok (.aload_n 0, 1) := by decide +kernel
theorem dL_isWhole_221 : decode cL_isWhole 221 = .ok (.iload 6, 2) := by decide +kernel
theorem dL_isWhole_223 : decode cL_isWhole 223 = .ok (.iload_n 2, 1) := by decide +kernel
theorem dL_isWhole_224 : decode cL_isWhole 224 = .ok (.bipush 31, 2) := by decide +kernel
theorem dL_isWhole_226 : decode cL_isWhole 226 = .ok (.irem, 1) := by decide +kernel
theorem dL_isWhole_227 : decode cL_isWhole 227 = .ok (.invokevirtual 112, 3) := by decide +kernel
theorem dL_isWhole_230 : decode cL_isWhole 230 = .ok (.aload_n 0, 1) := by decide +kernel
theorem dL_isWhole_231 : decode cL_isWhole 231 = .ok (.iload 6, 2) := by decide +kernel
theorem dL_isWhole_233 : decode cL_isWhole 233 = .ok (.iload_n 2, 1) := by decide +kernel
theorem dL_isWhole_234 : decode cL_isWhole 234 = .ok (.bipush 31, 2) := by decide +kernel
theorem dL_isWhole_236 : decode cL_isWhole 236 = .ok (.irem, 1) := by decide +kernel
theorem dL_isWhole_237 : decode cL_isWhole 237 = .ok (.invokevirtual 49, 3) := by decide +kernel
theorem dL_isWhole_240 : decode cL_isWhole 240 = .ok (.if_icmp .ne 39, 3) := by decide +kernel
theorem dL_isWhole_243 : decode cL_isWhole 243 = .ok (.iload_n 2, 1) := by decide +kernel
theorem dL_isWhole_244 : decode cL_isWhole 244 = .ok (.bipush 31, 2) := by decide +kernel
theorem dL_isWhole_246 : decode cL_isWhole 246 = .ok (.irem, 1) := by decide +kernel
theorem dL_isWhole_247 : decode cL_isWhole 247 = .ok (.ifCond .eq 28, 3) := by decide +kernel
theorem dL_isWhole_250 : decode cL_isWhole 250 = .ok (.aload_n 0, 1) := by decide +kernel
theorem dL_isWhole_251 : decode cL_isWhole 251 = .ok (.iload 6, 2) := by decide +kernel
theorem dL_isWhole_253 : decode cL_isWhole 253 = .ok (.iload_n 2, 1) := by decide +kernel
theorem dL_isWhole_254 : decode cL_isWhole 254 = .ok (.bipush 31, 2) := by decide +kernel
theorem dL_isWhole_256 : decode cL_isWhole 256 = .ok (.irem, 1) := by decide +kernel
theorem dL_isWhole_257 : decode cL_isWhole 257 = .ok (.invokevirtual 49, 3) := by decide +kernel
theorem dL_isWhole_260 : decode cL_isWhole 260 = .ok (.aload_n 0, 1) := by decide +kernel
theorem dL_isWhole_261 : decode cL_isWhole 261 = .ok (.iload 6, 2) := by decide +kernel
theorem dL_isWhole_263 : decode cL_isWhole 263 = .ok (.iload_n 2, 1) := by decide +kernel
theorem dL_isWhole_264 : decode cL_isWhole 264 = .ok (.bipush 31, 2) := by decide +kernel
theorem dL_isWhole_266 : decode cL_isWhole 266 = .ok (.irem, 1) := by decide +kernel
theorem dL_isWhole_267 : decode cL_isWhole 267 = .ok (.iconst 1, 1) := by decide +kernel
theorem dL_isWhole_268 : decode cL_isWhole 268 = .ok (.isub, 1) := by decide +kernel
theorem dL_isWhole_269 : decode cL_isWhole 269 = .ok (.invokevirtual 49, 3) := by decide +kernel
theorem dL_isWhole_272 : decode cL_isWhole 272 = .ok (.if_icmp .lt 7, 3) := by decide +kernel
theorem dL_isWhole_275 : decode cL_isWhole 275 = .ok (.iconst 1, 1) := by decide +kernel
theorem dL_isWhole_276 : decode cL_isWhole 276 = .ok (.goto 4, 3) := by decide +kernel
theorem dL_isWhole_279 : decode cL_isWhole 279 = .ok (.iconst 0, 1) := by decide +kernel
theorem dL_isWhole_280 : decode cL_isWhole 280 = .ok (.istore_n 3, 1) := by decide +kernel
theorem dL_isWhole_281 : decode cL_isWhole 281 = .ok (.aload_n 0, 1) := by decide +kernel
theorem dL_isWhole_282 : decode cL_isWhole 282 = .ok (.iload 6, 2) := by decide +kernel
theorem dL_isWhole_284 : decode cL_isWhole 284 = .ok (.iconst 0, 1) := by decide +kernel
theorem dL_isWhole_285 : decode cL_isWhole 285 = .ok (.invokevirtual 115, 3) := by decide +kernel
theorem dL_isWhole_288 : decode cL_isWhole 288 = .ok (.istore 8, 2) := by decide +kernel
theorem dL_isWhole_290 : decode cL_isWhole 290 = .ok (.aload_n 0, 1) := by decide +kernel
theorem dL_isWhole_291 : decode cL_isWhole 291 = .ok (.iload 6, 2) := by decide +kernel
theorem dL_isWhole_293 : decode cL_isWhole 293 = .ok (.iconst 1, 1) := by decide +kernel
theorem dL_isWhole_294 : decode cL_isWhole 294 = .ok (.invokevirtual 115, 3) := by decide +kernel
theorem dL_isWhole_297 : decode cL_isWhole 297 = .ok (.istore 9, 2) := by decide +kernel
theorem dL_isWhole_299 : decode cL_isWhole 299 = .ok (.iload_n 3, 1) := by decide +kernel
theorem dL_isWhole_300 : decode cL_isWhole 300 = .ok (.ifCond .eq 99, 3) := by decide +kernel
theorem dL_isWhole_303 : decode cL_isWhole 303 = .ok (.iload 8, 2) := by decide +kernel
theorem dL_isWhole_305 : decode cL_isWhole 305 = .ok (.iconst (-1), 1) := by decide +kernel
theorem dL_isWhole_306 : decode cL_isWhole 306 = .ok (.if_icmp .ne 12, 3) := by decide +kernel
theorem dL_isWhole_309 : decode cL_isWhole 309 = .ok (.iload 9, 2) := by decide +kernel
theorem dL_isWhole_311 : decode cL_isWhole 311 = .ok (.iconst (-1), 1) := by decide +kernel
theorem dL_isWhole_312 : decode cL_isWhole 312 = .ok (.if_icmp .ne 87, 3) := by decide +kernel
theorem dL_isWhole_315 : decode cL_isWhole 315 = .ok (.goto 80, 3) := by decide +kernel
theorem dL_isWhole_318 : decode cL_isWhole 318 = .ok (.iload 8, 2) := by decide +kernel
theorem dL_isWhole_320 : decode cL_isWhole 320 = .ok (.iload 9, 2) := by decide +kernel
theorem dL_isWhole_322 : decode cL_isWhole 322 = .ok (.if_icmp .gt 77, 3) := by decide +kernel
theorem dL_isWhole_325 : decode cL_isWhole 325 = .ok (.aload_n 0, 1) := by decide +kernel
theorem dL_isWhole_326 : decode cL_isWhole 326 = .ok (.iload 6, 2) := by decide +kernel
theorem dL_isWhole_328 : decode cL_isWhole 328 = .ok (.iload 8, 2) := by decide +kernel
theorem dL_isWhole_330 : decode cL_isWhole 330 = .ok (.invokevirtual 49, 3) := by decide +kernel
theorem dL_isWhole_333 : decode cL_isWhole 333 = .ok (.bipush 100, 2) := by decide +kernel
theorem dL_isWhole_335 : decode cL_isWhole 335 = .ok (.if_icmp .lt 64, 3) := by decide +kernel
theorem dL_isWhole_338 : decode cL_isWhole 338 = .ok (.aload_n 0, 1) := by decide +kernel
theorem dL_isWhole_339 : decode cL_isWhole 339 = .ok (.iload 6, 2) := by decide +kernel
theorem dL_isWhole_341 : decode cL_isWhole 341 = .ok (.iload 9, 2) := by decide +kernel
theorem dL_isWhole_343 : decode cL_isWhole 343 = .ok (.invokevirtual 49, 3) := by decide +kernel
theorem dL_isWhole_346 : decode cL_isWhole 346 = .ok (.sipush 6000, 3) := by decide +kernel
theorem dL_isWhole_349 : decode cL_isWhole 349 = .ok (.if_icmp .gt 50, 3) := by decide +kernel
theorem dL_isWhole_352 : decode cL_isWhole 352 = .ok (.iload 8, 2) := by decide +kernel
theorem dL_isWhole_354 : decode cL_isWhole 354 = .ok (.ifCond .eq 18, 3) := by decide +kernel
theorem dL_isWhole_357 : decode cL_isWhole 357 = .ok (.aload_n 0, 1) := by decide +kernel
theorem dL_isWhole_358 : decode cL_isWhole 358 = .ok (.iload 6, 2) := by decide +kernel
theorem dL_isWhole_360 : decode cL_isWhole 360 = .ok (.iload 8, 2) := by decide +kernel
theorem dL_isWhole_362 : decode cL_isWhole 362 = .ok (.iconst 1, 1) := by decide +kernel
theorem dL_isWhole_363 : decode cL_isWhole 363 = .ok (.isub, 1) := by decide +kernel
theorem dL_isWhole_364 : decode cL_isWhole 364 = .ok (.invokevirtual 49, 3) := by decide +kernel
theorem dL_isWhole_367 : decode cL_isWhole 367 = .ok (.bipush 100, 2) := by decide +kernel
theorem dL_isWhole_369 : decode cL_isWhole 369 = .ok (.if_icmp .ge 30, 3) := by decide +kernel
theorem dL_isWhole_372 : decode cL_isWhole 372 = .ok (.iload 9, 2) := by decide +kernel
theorem dL_isWhole_374 : decode cL_isWhole 374 = .ok (.bipush 30, 2) := by decide +kernel
theorem dL_isWhole_376 : decode cL_isWhole 376 = .ok (.if_icmp .eq 19, 3) := by decide +kernel
theorem dL_isWhole_379 : decode cL_isWhole 379 = .ok (.aload_n 0, 1) := by decide +kernel
theorem dL_isWhole_380 : decode cL_isWhole 380 = .ok (.iload 6, 2) := by decide +kernel
theorem dL_isWhole_382 : decode cL_isWhole 382 = .ok (.iload 9, 2) := by decide +kernel
theorem dL_isWhole_384 : decode cL_isWhole 384 = .ok (.iconst 1, 1) := by decide +kernel
theorem dL_isWhole_385 : decode cL_isWhole 385 = .ok (.iadd, 1) := by decide +kernel
theorem dL_isWhole_386 : decode cL_isWhole 386 = .ok (.invokevirtual 49, 3) := by decide +kernel
theorem dL_isWhole_389 : decode cL_isWhole 389 = .ok (.sipush 6000, 3) := by decide +kernel
theorem dL_isWhole_392 : decode cL_isWhole 392 = .ok (.if_icmp .le 7, 3) := by decide +kernel
theorem dL_isWhole_395 : decode cL_isWhole 395 = .ok (.iconst 1, 1) := by decide +kernel
theorem dL_isWhole_396 : decode cL_isWhole 396 = .ok (.goto 4, 3) := by decide +kernel
theorem dL_isWhole_399 : decode cL_isWhole 399 = .ok (.iconst 0, 1) := by decide +kernel
theorem dL_isWhole_400 : decode cL_isWhole 400 = .ok (.istore_n 3, 1) := by decide +kernel
theorem dL_isWhole_401 : decode cL_isWhole 401 = .ok (.iinc 6 1, 3) := by decide +kernel
theorem dL_isWhole_404 : decode cL_isWhole 404 = .ok (.goto (-272), 3) := by decide +kernel
theorem dL_isWhole_407 : decode cL_isWhole 407 = .ok (.iload_n 3, 1) := by decide +kernel
theorem dL_isWhole_408 : decode cL_isWhole 408 = .ok (.ireturn, 1) := by decide +kernel
set_option maxRecDepth 20000 in
theorem ggL_law_X2_init : GoodIn wsL_law wsX2_init := goodIn_r _ [6, 7, 8, 9, 10, 11, 12, 13, 14, 279, 280, 281, 282, 283, 284, 285, 286, 287] (by decide +kernel) (by decide +kernel)
set_option maxRecDepth 20000 in
theorem gL_law_X2_init : GoodIn wsL_law (wsX2_init) := ggL_law_X2_init
set_option maxRecDepth 20000 in
theorem ggL_law_X2_called : GoodIn wsL_law wsX2_called := goodIn_r _ [18, 19, 279, 280, 281, 282, 283, 284, 285, 286, 287] (by decide +kernel) (by decide +kernel)
set_option maxRecDepth 20000 in
theorem gL_law_X2_called : GoodIn wsL_law (wsV RL 71 RX2 yX2_called wsX2_called) := goodIn_app (goodIn_of _ (by decide +kernel)) ggL_law_X2_called
set_option maxRecDepth 20000 in
theorem ggL_law_X2_lane : GoodIn wsL_law wsX2_lane := goodIn_ca (goodIn_r _ [23, 24, 25, 14, 26, 27, 28, 2, 29, 30, 31, 32, 279, 280, 281, 282, 283, 284, 285, 286, 287, 288, 289, 290, 291, 292, 293, 294, 295, 296] (by decide +kernel) (by decide +kernel)) (goodIn_sub (fun _ h => List.mem_append_left _ (List.mem_append_left _ (List.mem_append_right _ h))) (by decide +kernel))
set_option maxRecDepth 20000 in
theorem gL_law_X2_lane : GoodIn wsL_law (wsV RL 92 RX2 yX2_lane wsX2_lane) := goodIn_app (goodIn_of _ (by decide +kernel)) ggL_law_X2_lane
set_option maxRecDepth 20000 in
theorem ggL_law_L_draw : GoodIn wsL_law wsL_draw := goodIn_r _ [36, 37, 38, 39] (by decide +kernel) (by decide +kernel)
set_option maxRecDepth 20000 in
theorem gL_law_L_draw : GoodIn wsL_law (va_wsS RL 120 yL_draw wsL_draw) := goodIn_app (goodIn_of _ (by decide +kernel)) ggL_law_L_draw
theorem goodIn_c {big a : List Cond} {c : Cond} (i : Nat) (hc : big[i]? = some c) (hg : goodWord c = true) (ha : GoodIn big a) : GoodIn big (c :: a) := fun w h => (List.mem_cons.mp h).elim (fun e => e ▸ ⟨List.mem_of_getElem? hc, good_of_word hg⟩) (ha w)
set_option maxRecDepth 20000 in
theorem ggL_law_L_step : GoodIn wsL_law wsL_step := goodIn_ca (goodIn_ca (goodIn_ca (goodIn_c 42 rfl (by decide +kernel) (goodIn_r _ [43, 44, 35, 45, 46, 47, 48, 49, 2, 50, 51, 52, 53, 54, 55, 11, 10, 56, 57, 30, 31, 32, 58, 59, 60, 61, 8, 9, 62, 63, 64, 65, 66, 67, 68, 69, 70, 71, 72, 73, 74, 75, 76, 77, 78, 79, 80, 81, 82, 24, 25, 83, 84, 85, 86, 87, 88, 89, 90, 91, 92, 93, 94, 95, 96, 97, 98, 99, 100, 101, 102, 103, 104, 105, 106, 107, 108, 109, 110, 111, 112, 113, 114, 115, 116, 117, 118, 119, 13, 12, 120, 121, 122, 123, 124, 125, 126, 127, 128, 129, 130, 131, 132, 133, 134, 135, 136, 137, 138, 139, 140, 141, 142, 143, 144, 145, 146, 147, 148, 149, 150, 151, 152, 153, 154, 155, 156, 157, 158, 159, 160, 26, 161, 162, 163, 164, 20, 21, 22, 23, 14, 27, 28, 29, 165, 166, 167, 168, 169, 170, 171, 172, 173, 174, 175, 176, 177, 178, 179, 180, 181, 182, 183, 184, 185, 186, 15, 16, 17, 18, 19, 187, 188, 189, 190, 191, 192, 193, 194, 195, 196, 197, 198, 199, 200, 201, 202, 203, 204, 205, 206, 207, 208, 209, 210, 211, 212, 213, 214, 215, 216, 217, 218, 219, 220, 221, 222, 223, 224, 225, 226, 227, 228, 229, 230, 231, 232, 233, 234, 235, 236, 237, 238, 239, 240, 241, 242, 243, 244, 245, 246, 247, 248, 249, 250, 251, 252, 253, 254, 255, 256, 257, 258, 279, 280, 281, 282, 283, 284, 285, 286, 287, 288, 289, 290, 291, 292, 293, 294, 295, 296, 297, 298] (by decide +kernel) (by decide +kernel))) (goodIn_sub (fun _ h => List.mem_append_left _ (List.mem_append_right _ h)) (by decide +kernel))) (goodIn_sub (fun _ h => List.mem_append_right _ h) (by decide +kernel))) (goodIn_sub (fun _ h => List.mem_append_left _ (List.mem_append_left _ (List.mem_append_right _ h))) (by decide +kernel))
set_option maxRecDepth 20000 in
theorem gL_law_L_step : GoodIn wsL_law (va_wsS RL 124 yL_step wsL_step) := goodIn_app (goodIn_of _ (by decide +kernel)) ggL_law_L_step
theorem goodIn_c2 {big a : List Cond} {c : Cond} (i : Nat) (hc : big[i]? = some c) (hg : goodWord c = true) (ha : GoodIn big a) : GoodIn big (c :: a) := fun w h => (List.mem_cons.mp h).elim (fun e => e ▸ ⟨List.mem_of_getElem? hc, good_of_word hg⟩) (ha w)
set_option maxRecDepth 20000 in
theorem ggL_law_L_isWhole : GoodIn wsL_law wsL_isWhole := goodIn_ca (goodIn_ca (goodIn_c 261 rfl (by decide +kernel) (goodIn_r _ [262, 20, 21, 22, 2, 23, 24, 25, 14, 26, 27, 28, 29, 30, 31, 32, 104, 105, 106, 107, 51, 52, 79, 80, 81, 82, 11, 108, 109, 110, 111, 97, 98, 57, 99, 65, 100, 101, 102, 103, 63, 64, 68, 69, 70, 71, 72, 73, 74, 75, 76, 77, 78, 83, 84, 85, 86, 67, 87, 88, 89, 90, 91, 92, 93, 94, 95, 96, 263, 264, 265, 266, 267, 268, 269, 270, 271, 272, 273, 274, 275, 276, 277, 278, 246, 179, 180, 181, 279, 280, 281, 282, 283, 284, 285, 286, 287, 288, 289, 290, 291, 292, 293, 294, 295, 296] (by decide +kernel) (by decide +kernel))) (goodIn_sub (fun _ h => List.mem_append_left _ (List.mem_append_left _ (List.mem_append_right _ h))) (by decide +kernel))) (goodIn_sub (fun _ h => List.mem_append_left _ (List.mem_append_right _ h)) (by decide +kernel))
set_option maxRecDepth 20000 in
theorem gL_law_L_isWhole : GoodIn wsL_law (va_wsS RL 128 yL_isWhole wsL_isWhole) := goodIn_app (goodIn_of _ (by decide +kernel)) ggL_law_L_isWhole
theorem dL_law_0 : decode cL_law 0 = .ok (.new 11, 3) := by decide +kernel
theorem dL_law_3 : decode cL_law 3 = .ok (.dup, 1) := by decide +kernel
theorem dL_law_4 : decode cL_law 4 = .ok (.invokespecial 119, 3) := by decide +kernel
theorem dL_law_7 : decode cL_law 7 = .ok (.astore_n 1, 1) := by decide +kernel
theorem dL_law_8 : decode cL_law 8 = .ok (.iconst 4, 1) := by decide +kernel
theorem dL_law_9 : decode cL_law 9 = .ok (.newarray .int, 2) := by decide +kernel
theorem dL_law_11 : decode cL_law 11 = .ok (.astore_n 2, 1) := by decide +kernel
theorem dL_law_12 : decode cL_law 12 = .ok (.bipush 8, 2) := by decide +kernel
theorem dL_law_14 : decode cL_law 14 = .ok (.newarray .int, 2) := by decide +kernel
theorem dL_law_16 : decode cL_law 16 = .ok (.astore_n 3, 1) := by decide +kernel
theorem dL_law_17 : decode cL_law 17 = .ok (.bipush 8, 2) := by decide +kernel
theorem dL_law_19 : decode cL_law 19 = .ok (.newarray .int, 2) := by decide +kernel
theorem dL_law_21 : decode cL_law 21 = .ok (.astore 4, 2) := by decide +kernel
theorem dL_law_23 : decode cL_law 23 = .ok (.aload_n 1, 1) := by decide +kernel
theorem dL_law_24 : decode cL_law 24 = .ok (.invokevirtual 71, 3) := by decide +kernel
theorem dL_law_27 : decode cL_law 27 = .ok (.ifCond .ne 16, 3) := by decide +kernel
theorem dL_law_30 : decode cL_law 30 = .ok (.aload_n 1, 1) := by decide +kernel
theorem dL_law_31 : decode cL_law 31 = .ok (.iconst 0, 1) := by decide +kernel
theorem dL_law_32 : decode cL_law 32 = .ok (.invokevirtual 92, 3) := by decide +kernel
theorem dL_law_35 : decode cL_law 35 = .ok (.iconst (-1), 1) := by decide +kernel
theorem dL_law_36 : decode cL_law 36 = .ok (.if_icmp .ne 7, 3) := by decide +kernel
theorem dL_law_39 : decode cL_law 39 = .ok (.iconst 1, 1) := by decide +kernel
theorem dL_law_40 : decode cL_law 40 = .ok (.goto 4, 3) := by decide +kernel
theorem dL_law_43 : decode cL_law 43 = .ok (.iconst 0, 1) := by decide +kernel
theorem dL_law_44 : decode cL_law 44 = .ok (.istore 5, 2) := by decide +kernel
theorem dL_law_46 : decode cL_law 46 = .ok (.aload_n 0, 1) := by decide +kernel
theorem dL_law_47 : decode cL_law 47 = .ok (.arraylength, 1) := by decide +kernel
theorem dL_law_48 : decode cL_law 48 = .ok (.iconst 3, 1) := by decide +kernel
theorem dL_law_49 : decode cL_law 49 = .ok (.idiv, 1) := by decide +kernel
theorem dL_law_50 : decode cL_law 50 = .ok (.bipush 80, 2) := by decide +kernel
theorem dL_law_52 : decode cL_law 52 = .ok (.if_icmp .le 8, 3) := by decide +kernel
theorem dL_law_55 : decode cL_law 55 = .ok (.bipush 80, 2) := by decide +kernel
theorem dL_law_57 : decode cL_law 57 = .ok (.goto 7, 3) := by decide +kernel
theorem dL_law_60 : decode cL_law 60 = .ok (.aload_n 0, 1) := by decide +kernel
theorem dL_law_61 : decode cL_law 61 = .ok (.arraylength, 1) := by decide +kernel
theorem dL_law_62 : decode cL_law 62 = .ok (.iconst 3, 1) := by decide +kernel
theorem dL_law_63 : decode cL_law 63 = .ok (.idiv, 1) := by decide +kernel
theorem dL_law_64 : decode cL_law 64 = .ok (.istore 6, 2) := by decide +kernel
theorem dL_law_66 : decode cL_law 66 = .ok (.iconst 0, 1) := by decide +kernel
theorem dL_law_67 : decode cL_law 67 = .ok (.istore 7, 2) := by decide +kernel
theorem dL_law_69 : decode cL_law 69 = .ok (.iload 7, 2) := by decide +kernel
theorem dL_law_71 : decode cL_law 71 = .ok (.iload 6, 2) := by decide +kernel
theorem dL_law_73 : decode cL_law 73 = .ok (.if_icmp .ge 70, 3) := by decide +kernel
theorem dL_law_76 : decode cL_law 76 = .ok (.iload 5, 2) := by decide +kernel
theorem dL_law_78 : decode cL_law 78 = .ok (.ifCond .eq 65, 3) := by decide +kernel
theorem dL_law_81 : decode cL_law 81 = .ok (.aload_n 1, 1) := by decide +kernel
theorem dL_law_82 : decode cL_law 82 = .ok (.aload_n 2, 1) := by decide +kernel
theorem dL_law_83 : decode cL_law 83 = .ok (.aload_n 3, 1) := by decide +kernel
theorem dL_law_84 : decode cL_law 84 = .ok (.aload 4, 2) := by decide +kernel
theorem dL_law_86 : decode cL_law 86 = .ok (.aload_n 0, 1) := by decide +kernel
theorem dL_law_87 : decode cL_law 87 = .ok (.iconst 3, 1) := by decide +kernel
theorem dL_law_88 : decode cL_law 88 = .ok (.iload 7, 2) := by decide +kernel
theorem dL_law_90 : decode cL_law 90 = .ok (.imul, 1) := by decide +kernel
theorem dL_law_91 : decode cL_law 91 = .ok (.invokestatic 120, 3) := by decide +kernel
theorem dL_law_94 : decode cL_law 94 = .ok (.aload_n 0, 1) := by decide +kernel
theorem dL_law_95 : decode cL_law 95 = .ok (.iconst 3, 1) := by decide +kernel
theorem dL_law_96 : decode cL_law 96 = .ok (.iload 7, 2) := by decide +kernel
theorem dL_law_98 : decode cL_law 98 = .ok (.imul, 1) := by decide +kernel
theorem dL_law_99 : decode cL_law 99 = .ok (.iconst 1, 1) := by decide +kernel
theorem dL_law_100 : decode cL_law 100 = .ok (.iadd, 1) := by decide +kernel
theorem dL_law_101 : decode cL_law 101 = .ok (.invokestatic 120, 3) := by decide +kernel
theorem dL_law_104 : decode cL_law 104 = .ok (.aload_n 0, 1) := by decide +kernel
theorem dL_law_105 : decode cL_law 105 = .ok (.iconst 3, 1) := by decide +kernel
theorem dL_law_106 : decode cL_law 106 = .ok (.iload 7, 2) := by decide +kernel
theorem dL_law_108 : decode cL_law 108 = .ok (.imul, 1) := by decide +kernel
theorem dL_law_109 : decode cL_law 109 = .ok (.iconst 2, 1) := by decide +kernel
theorem dL_law_110 : decode cL_law 110 = .ok (.iadd, 1) := by decide +kernel
theorem dL_law_111 : decode cL_law 111 = .ok (.invokestatic 120, 3) := by decide +kernel
theorem dL_law_114 : decode cL_law 114 = .ok (.invokestatic 124, 3) := by decide +kernel
theorem dL_law_117 : decode cL_law 117 = .ok (.ifCond .eq 17, 3) := by decide +kernel
theorem dL_law_120 : decode cL_law 120 = .ok (.aload_n 1, 1) := by decide +kernel
theorem dL_law_121 : decode cL_law 121 = .ok (.aload_n 2, 1) := by decide +kernel
theorem dL_law_122 : decode cL_law 122 = .ok (.iload 7, 2) := by decide +kernel
theorem dL_law_124 : decode cL_law 124 = .ok (.invokestatic 128, 3) := by decide +kernel
theorem dL_law_127 : decode cL_law 127 = .ok (.ifCond .eq 7, 3) := by decide +kernel
theorem dL_law_130 : decode cL_law 130 = .ok (.iconst 1, 1) := by decide +kernel
theorem dL_law_131 : decode cL_law 131 = .ok (.goto 4, 3) := by decide +kernel
theorem dL_law_134 : decode cL_law 134 = .ok (.iconst 0, 1) := by decide +kernel
theorem dL_law_135 : decode cL_law 135 = .ok (.istore 5, 2) := by decide +kernel
theorem dL_law_137 : decode cL_law 137 = .ok (.iinc 7 1, 3) := by decide +kernel
theorem dL_law_140 : decode cL_law 140 = .ok (.goto (-71), 3) := by decide +kernel
theorem dL_law_143 : decode cL_law 143 = .ok (.iload 5, 2) := by decide +kernel
theorem dL_law_145 : decode cL_law 145 = .ok (.ireturn, 1) := by decide +kernel
abbrev vwCl : List vw_C := [(RX0, TX0, 2), (RX1, TX1, 9), (RX2, TX2, 9)]
end
section
/-! ===== truth values as ints ===== -/
def bi (P : Prop) [Decidable P] : Int32 := if P then 1 else 0
theorem bi_t {P : Prop} [Decidable P] (h : P) : bi P = 1 := if_pos h
theorem bi_f {P : Prop} [Decidable P] (h : ¬ P) : bi P = 0 := if_neg h
theorem bi_z {P : Prop} [Decidable P] : bi P = 0 ↔ ¬ P := by
  by_cases h : P
  · rw [bi_t h]; exact ⟨fun q => absurd q (by decide), fun q => absurd h q⟩
  · rw [bi_f h]; exact ⟨fun _ => h, fun _ => rfl⟩
theorem bi_nz {P : Prop} [Decidable P] : ¬ bi P = 0 ↔ P := by
  rw [bi_z, Decidable.not_not]
theorem bi_01 (P : Prop) [Decidable P] : bi P = 0 ∨ bi P = 1 := by
  by_cases h : P
  · exact Or.inr (bi_t h)
  · exact Or.inl (bi_f h)
theorem bi_iff {P Q : Prop} [Decidable P] [Decidable Q] (h : P ↔ Q) : bi P = bi Q := by
  by_cases hp : P
  · rw [bi_t hp, bi_t (h.mp hp)]
  · rw [bi_f hp, bi_f (fun q => hp (h.mpr q))]
theorem nar_01 {x : Int32} (h : x = 0 ∨ x = 1) : narrow .boolean (.int x) = .int x := by
  rcases h with h | h <;> subst h <;> rfl
theorem fit_01 {x : Int32} (h : x = 0 ∨ x = 1) : fits .boolean (.int x) = true := by
  rcases h with h | h <;> subst h <;> decide
theorem vn_01 {x : Int32} (h : x = 0 ∨ x = 1) : vp_nar .boolean x = x := by
  rcases h with h | h <;> subst h <;> rfl
/-! ===== walks: joins and loops ===== -/
section WJ
variable {p : Program} {l : Launch} {e : Env} {R : Room} {s : State} {m : MethodId} {args : Array Value} {below : List Frame} {meth : Method} {c : Code} {H : Heap} {locs : List Loc} {cells slots : Nat} {Q : State → Prop}
/-- where roads come together with one int on top -/
theorem W_join {pc0 pc : Nat} {ls : Array Slot} {st0 rest : List Value} (P : Int32 → Prop) (k : ∀ v : Int32, P v → W p l e R s m args below meth c H locs cells slots Q (F0 m pc ls (.int v :: rest)))
    (h : (∀ v : Int32, P v → W p l e R s m args below meth c H locs cells slots Q (F0 m pc ls (.int v :: rest))) → W p l e R s m args below meth c H locs cells slots Q (F0 m pc0 ls st0)) : W p l e R s m args below meth c H locs cells slots Q (F0 m pc0 ls st0) := h k
theorem W_top {pc : Nat} {ls : Array Slot} {rest : List Value} {x y : Value} (h : x = y) (k : W p l e R s m args below meth c H locs cells slots Q (F0 m pc ls (y :: rest))) : W p l e R s m args below meth c H locs cells slots Q (F0 m pc ls (x :: rest)) := h ▸ k
/-- a loop that leaves the heap alone -/
theorem W_loopR {σ : Type} {pc nL : Nat} (L : σ → List (Nat × Value)) (I : σ → Prop) (μ : σ → Nat)
    (step : ∀ (x : σ) (ls : Array Slot), I x → lv_has ls nL (L x) → (∀ (y : σ) (ls' : Array Slot), μ y < μ x → I y → lv_has ls' nL (L y) → W p l e R s m args below meth c H locs cells slots Q (F0 m pc ls' [])) → W p l e R s m args below meth c H locs cells slots Q (F0 m pc ls []))
    (x : σ) {ls : Array Slot} (h : I x) (hl : lv_has ls nL (L x)) : W p l e R s m args below meth c H locs cells slots Q (F0 m pc ls []) := by
  obtain ⟨n, hn⟩ : ∃ n, n = μ x := ⟨_, rfl⟩
  induction n using Nat.strongRecOn generalizing x ls with
  | ind n ih =>
    subst hn
    exact step x ls h hl (fun y ls' hy hI hl' => ih _ hy y hI hl' rfl)
/-- a loop that writes -/
theorem W_loopH {σ : Type} {pc nL : Nat} (L : σ → List (Nat × Value)) (I : σ → Heap → List Loc → Prop) (μ : σ → Nat)
    (step : ∀ (x : σ) (H : Heap) (locs : List Loc) (ls : Array Slot), I x H locs → lv_has ls nL (L x) → (∀ (y : σ) (H' : Heap) (locs' : List Loc) (ls' : Array Slot), μ y < μ x → I y H' locs' → lv_has ls' nL (L y) → W p l e R s m args below meth c H' locs' cells slots Q (F0 m pc ls' [])) → W p l e R s m args below meth c H locs cells slots Q (F0 m pc ls []))
    (x : σ) {H : Heap} {locs : List Loc} {ls : Array Slot} (h : I x H locs) (hl : lv_has ls nL (L x)) : W p l e R s m args below meth c H locs cells slots Q (F0 m pc ls []) := by
  obtain ⟨n, hn⟩ : ∃ n, n = μ x := ⟨_, rfl⟩
  induction n using Nat.strongRecOn generalizing x H locs ls with
  | ind n ih =>
    subst hn
    exact step x H locs ls h hl (fun y H' locs' ls' hy hI hl' => ih _ hy y hI hl' rfl)
/-! ===== array reads and writes at a number ===== -/
variable {cc : ByteArray} {pc : Nat} {ls : Array Slot} {rest : List Value} {D : va_G} {cl : List vw_C} {A : Nat → Prop} {a : Nat} {tys : List (ClassId × FieldType)} {ws : va_W} {H0 : Heap}
theorem my_iald (hexec : p.tables.exec = Jvm.exec) (hb : c.code = cc) (hK : va_K D cl tys s) (hP : va_P D cl ws H) (q0 t0 : Nat) {cA : ClassId} {n : Nat} {f : Nat → Int32} (ha : ws[q0]? = some (a, .inl (cA, n, .inl f))) (ht : tys[t0]? = some (cA, .int)) {k : Nat} (hk : k < n) (hn : n < 2147483648) (hdg : decode cc pc = .ok (.iaload, 1))
    (kk : W p l e R s m args below meth c H locs cells slots Q (F0 m (pc + 1) ls (.int (f k) :: rest))) : W p l e R s m args below meth c H locs cells slots Q (F0 m pc ls (.int (nI k) :: .ref a :: rest)) := by
  refine va_iald hexec hb hK hP q0 t0 ha ht (vp_in_nI hk hn) hdg ?_
  rw [nI_clamp (Nat.lt_trans hk hn)]
  exact kk
theorem my_zald (hexec : p.tables.exec = Jvm.exec) (hb : c.code = cc) (hK : va_K D cl tys s) (hP : va_P D cl ws H) (q0 t0 : Nat) {cA : ClassId} {n : Nat} {f : Nat → Int32} (ha : ws[q0]? = some (a, .inl (cA, n, .inl f))) (ht : tys[t0]? = some (cA, .boolean)) {k : Nat} (hk : k < n) (hn : n < 2147483648) (hdg : decode cc pc = .ok (.baload, 1))
    (kk : W p l e R s m args below meth c H locs cells slots Q (F0 m (pc + 1) ls (.int (f k) :: rest))) : W p l e R s m args below meth c H locs cells slots Q (F0 m pc ls (.int (nI k) :: .ref a :: rest)) := by
  refine va_zald hexec hb hK hP q0 t0 ha ht (vp_in_nI hk hn) hdg ?_
  rw [nI_clamp (Nat.lt_trans hk hn)]
  exact kk
theorem my_aldq (hexec : p.tables.exec = Jvm.exec) (hb : c.code = cc) (hK : va_K D cl tys s) (hP : va_P D cl ws H) (q0 t0 : Nat) {cA : ClassId} {C : String} {n : Nat} {f : Nat → Option Nat} (ha : ws[q0]? = some (a, .inl (cA, n, .inr (.inr (.inr (.inr f)))))) (ht : tys[t0]? = some (cA, .object C)) {k : Nat} (hk : k < n) (hn : n < 2147483648) (hdg : decode cc pc = .ok (.aaload, 1))
    (kk : W p l e R s m args below meth c H locs cells slots Q (F0 m (pc + 1) ls (va_rf (f k) :: rest))) : W p l e R s m args below meth c H locs cells slots Q (F0 m pc ls (.int (nI k) :: .ref a :: rest)) := by
  refine va_aldq hexec hb hK hP q0 t0 ha ht (vp_in_nI hk hn) hdg ?_
  rw [nI_clamp (Nat.lt_trans hk hn)]
  exact kk
theorem my_iast (hexec : p.tables.exec = Jvm.exec) (hb : c.code = cc) (hK : va_K D cl tys s) (hP : va_P D cl ws H) (hD : va_D A ws) (hS : va_S A H0 H locs) (q0 t0 : Nat) {cA : ClassId} {n : Nat} {f : Nat → Int32} (ha : ws[q0]? = some (a, .inl (cA, n, .inl f))) (ht : tys[t0]? = some (cA, .int)) {k : Nat} {x : Int32} (hk : k < n) (hn : n < 2147483648) (hdg : decode cc pc = .ok (.iastore, 1))
    (kk : ∀ (H1 : Heap) (locs1 : List Loc), va_P D cl (ws.set q0 (a, .inl (cA, n, .inl (upd f k x)))) H1 → va_D A (ws.set q0 (a, .inl (cA, n, .inl (upd f k x)))) → va_S A H0 H1 locs1 → W p l e R s m args below meth c H1 locs1 cells slots Q (F0 m (pc + 1) ls rest)) : W p l e R s m args below meth c H locs cells slots Q (F0 m pc ls (.int x :: .int (nI k) :: .ref a :: rest)) := by
  refine va_iast hexec hb hK hP hD hS q0 t0 ha ht (vp_in_nI hk hn) hdg ?_
  rw [nI_clamp (Nat.lt_trans hk hn)]
  exact kk
theorem my_zast (hexec : p.tables.exec = Jvm.exec) (hb : c.code = cc) (hK : va_K D cl tys s) (hP : va_P D cl ws H) (hD : va_D A ws) (hS : va_S A H0 H locs) (q0 t0 : Nat) {cA : ClassId} {n : Nat} {f : Nat → Int32} (ha : ws[q0]? = some (a, .inl (cA, n, .inl f))) (ht : tys[t0]? = some (cA, .boolean)) {k : Nat} {x : Int32} (hk : k < n) (hn : n < 2147483648) (hx : x = 0 ∨ x = 1) (hdg : decode cc pc = .ok (.bastore, 1))
    (kk : ∀ (H1 : Heap) (locs1 : List Loc), va_P D cl (ws.set q0 (a, .inl (cA, n, .inl (upd f k x)))) H1 → va_D A (ws.set q0 (a, .inl (cA, n, .inl (upd f k x)))) → va_S A H0 H1 locs1 → W p l e R s m args below meth c H1 locs1 cells slots Q (F0 m (pc + 1) ls rest)) : W p l e R s m args below meth c H locs cells slots Q (F0 m pc ls (.int x :: .int (nI k) :: .ref a :: rest)) := by
  refine va_zast hexec hb hK hP hD hS q0 t0 ha ht (vp_in_nI hk hn) hdg ?_
  rw [nI_clamp (Nat.lt_trans hk hn), vn_01 hx]
  exact kk
theorem my_astq (hexec : p.tables.exec = Jvm.exec) (hb : c.code = cc) (hK : va_K D cl tys s) (hP : va_P D cl ws H) (hD : va_D A ws) (hS : va_S A H0 H locs) (q0 t0 qk ci : Nat) {cA : ClassId} {r : vw_C} {n v : Nat} {vs : List Value} {f : Nat → Option Nat} (ha : ws[q0]? = some (a, .inl (cA, n, .inr (.inr (.inr (.inr f)))))) (ht : tys[t0]? = some (cA, .object r.1)) (hv : ws[qk]? = some (v, .inr (ci, vs))) (hc : cl[ci]? = some r) {k : Nat} (hk : k < n) (hn : n < 2147483648) (hdg : decode cc pc = .ok (.aastore, 1))
    (kk : ∀ (H1 : Heap) (locs1 : List Loc), va_P D cl (ws.set q0 (a, .inl (cA, n, .inr (.inr (.inr (.inr (va_up f k (some v)))))))) H1 → va_D A (ws.set q0 (a, .inl (cA, n, .inr (.inr (.inr (.inr (va_up f k (some v)))))))) → va_S A H0 H1 locs1 → W p l e R s m args below meth c H1 locs1 cells slots Q (F0 m (pc + 1) ls rest)) : W p l e R s m args below meth c H locs cells slots Q (F0 m pc ls (.ref v :: .int (nI k) :: .ref a :: rest)) := by
  refine va_astq hexec hb hK hP hD hS q0 t0 qk ci ha ht hv hc (vp_in_nI hk hn) hdg ?_
  rw [nI_clamp (Nat.lt_trans hk hn)]
  exact kk
theorem my_astqN (hexec : p.tables.exec = Jvm.exec) (hb : c.code = cc) (hK : va_K D cl tys s) (hP : va_P D cl ws H) (hD : va_D A ws) (hS : va_S A H0 H locs) (q0 t0 : Nat) {cA : ClassId} {C : String} {n : Nat} {f : Nat → Option Nat} (ha : ws[q0]? = some (a, .inl (cA, n, .inr (.inr (.inr (.inr f)))))) (ht : tys[t0]? = some (cA, .object C)) {k : Nat} (hk : k < n) (hn : n < 2147483648) (hdg : decode cc pc = .ok (.aastore, 1))
    (kk : ∀ (H1 : Heap) (locs1 : List Loc), va_P D cl (ws.set q0 (a, .inl (cA, n, .inr (.inr (.inr (.inr (va_up f k none))))))) H1 → va_D A (ws.set q0 (a, .inl (cA, n, .inr (.inr (.inr (.inr (va_up f k none))))))) → va_S A H0 H1 locs1 → W p l e R s m args below meth c H1 locs1 cells slots Q (F0 m (pc + 1) ls rest)) : W p l e R s m args below meth c H locs cells slots Q (F0 m pc ls (.null :: .int (nI k) :: .ref a :: rest)) := by
  refine va_astqN hexec hb hK hP hD hS q0 t0 ha ht (vp_in_nI hk hn) hdg ?_
  rw [nI_clamp (Nat.lt_trans hk hn)]
  exact kk
end WJ
/-! ===== worlds: one cell, two parts side by side ===== -/
theorem one_P {D : va_G} {cl : List vw_C} {ws : va_W} {H : Heap} {i : Nat} {q : Nat × va_E} (h : va_P D cl ws H) (hi : ws[i]? = some q) : va_P D cl [q] H := by
  intro k x hk
  have hm := List.mem_of_getElem? hk
  rw [List.mem_singleton] at hm
  subst hm
  exact h i _ hi
theorem P_left {D : va_G} {cl : List vw_C} {w1 w2 : va_W} {H : Heap} (h : va_P D cl (w1 ++ w2) H) : va_P D cl w1 H := by
  intro k q hk
  exact h k q (by rw [List.getElem?_append_left (List.getElem?_eq_some_iff.mp hk).1]; exact hk)
theorem P_right {D : va_G} {cl : List vw_C} {w1 w2 : va_W} {H : Heap} (h : va_P D cl (w1 ++ w2) H) : va_P D cl w2 H := by
  intro k q hk
  exact h (w1.length + k) q (by rw [List.getElem?_append_right (by omega), Nat.add_sub_cancel_left]; exact hk)
theorem D_left {A : Nat → Prop} {w1 w2 : va_W} (h : va_D A (w1 ++ w2)) : va_D A w1 := by
  refine h.by id (fun k q hk => ?_) (fun i j _ _ e => e)
  show (w1 ++ w2)[k]? = some q
  rw [List.getElem?_append_left (List.getElem?_eq_some_iff.mp hk).1]; exact hk
theorem D_right {A : Nat → Prop} {w1 w2 : va_W} (h : va_D A (w1 ++ w2)) : va_D A w2 := by
  refine h.by (fun k => w1.length + k) (fun k q hk => ?_) (fun i j _ _ e => by omega)
  rw [List.getElem?_append_right (by omega), Nat.add_sub_cancel_left]; exact hk
theorem D_apart {A : Nat → Prop} {w1 w2 : va_W} (h : va_D A (w1 ++ w2)) {i j : Nat} {x y : Nat × va_E} (hx : w1[i]? = some x) (hy : w2[j]? = some y) : x.1 ≠ y.1 := by
  intro e
  have hl := (List.getElem?_eq_some_iff.mp hx).1
  have := h.1 i (w1.length + j) x y (by rw [List.getElem?_append_left hl]; exact hx) (by rw [List.getElem?_append_right (by omega), Nat.add_sub_cancel_left]; exact hy) e
  omega
theorem A_cell {ws : va_W} {sz k : Nat} {q : Nat × va_E} (h : ws[k]? = some q) : va_A ws sz q.1 := Or.inl ⟨k, q.2, h⟩
/-- what a callee may change lies in its caller's part -/
theorem A_in {A0 : Nat → Prop} {w1 : va_W} {H0 H : Heap} {locs : List Loc} (hD : va_D A0 w1) (hS : va_S A0 H0 H locs) (hA : ∀ q, H0.size ≤ q → A0 q) : ∀ q, va_A w1 H.size q → A0 q := by
  intro q h
  rcases h with ⟨k, e, h⟩ | h
  · exact hD.2 k (q, e) h
  · exact hA q (Nat.le_trans hS.1 h)
/-- behind a call that had the left part -/
theorem join_L {A0 : Nat → Prop} {D : va_G} {cl : List vw_C} {w1 w1' w2 : va_W} {H H1 : Heap} (hP : va_P D cl (w1 ++ w2) H) (hD : va_D A0 (w1 ++ w2)) (hk : ∀ q : Nat, q < H.size → ¬ va_A w1 H.size q → H1[q]? = H[q]?) (hF : ∀ q, va_A w1 H.size q → A0 q) (hP1 : va_P D cl w1' H1) (hD1 : va_D (va_A w1 H.size) w1') : va_P D cl (w1' ++ w2) H1 ∧ va_D A0 (w1' ++ w2) := by
  have hP2 := P_right hP
  have hD2 := D_right hD
  have apart : ∀ (k : Nat) (q : Nat × va_E), w2[k]? = some q → q.1 < H.size ∧ ¬ va_A w1 H.size q.1 := by
    intro k q hq
    have hl := (hP2 k q hq).lt
    refine ⟨hl, fun h => ?_⟩
    rcases h with ⟨k2, e, h⟩ | h
    · exact D_apart hD h hq rfl
    · omega
  refine ⟨va_P.app hP1 (fun k q hq => (hP2 k q hq).kept (hk q.1 (apart k q hq).1 (apart k q hq).2)), va_D.app (hD1.weaken (fun k q _ h => hF q.1 h)) hD2 (fun i j x y hx hy hxy => ?_)⟩
  exact (apart j y hy).2 (by rw [← hxy]; exact hD1.2 i x hx)
/-- behind a call that had the right part -/
theorem join_R {A0 : Nat → Prop} {D : va_G} {cl : List vw_C} {w1 w2 w2' : va_W} {H H1 : Heap} (hP : va_P D cl (w1 ++ w2) H) (hD : va_D A0 (w1 ++ w2)) (hk : ∀ q : Nat, q < H.size → ¬ va_A w2 H.size q → H1[q]? = H[q]?) (hF : ∀ q, va_A w2 H.size q → A0 q) (hP1 : va_P D cl w2' H1) (hD1 : va_D (va_A w2 H.size) w2') : va_P D cl (w1 ++ w2') H1 ∧ va_D A0 (w1 ++ w2') := by
  have hP2 := P_left hP
  have hD2 := D_left hD
  have apart : ∀ (k : Nat) (q : Nat × va_E), w1[k]? = some q → q.1 < H.size ∧ ¬ va_A w2 H.size q.1 := by
    intro k q hq
    have hl := (hP2 k q hq).lt
    refine ⟨hl, fun h => ?_⟩
    rcases h with ⟨k2, e, h⟩ | h
    · exact D_apart hD hq h rfl
    · omega
  refine ⟨va_P.app (fun k q hq => (hP2 k q hq).kept (hk q.1 (apart k q hq).1 (apart k q hq).2)) hP1, va_D.app hD2 (hD1.weaken (fun k q _ h => hF q.1 h)) (fun i j x y hx hy hxy => ?_)⟩
  exact (apart i x hx).2 (by rw [hxy]; exact hD1.2 j y hy)
/-- behind a call that had one cell of it -/
theorem join_1 {A0 : Nat → Prop} {D : va_G} {cl : List vw_C} {ws : va_W} {i a : Nat} {e e' : va_E} {H H1 : Heap} (hP : va_P D cl ws H) (hD : va_D A0 ws) (hi : ws[i]? = some (a, e)) (hk : ∀ q : Nat, q < H.size → ¬ va_A [(a, e)] H.size q → H1[q]? = H[q]?) (hP1 : va_P D cl [(a, e')] H1) : va_P D cl (ws.set i (a, e')) H1 ∧ va_D A0 (ws.set i (a, e')) := by
  have hl := (List.getElem?_eq_some_iff.mp hi).1
  refine ⟨fun k q hq => ?_, hD.set hi⟩
  by_cases hki : k = i
  · subst hki
    rw [List.getElem?_set_self hl] at hq
    cases hq
    exact hP1 0 _ rfl
  · rw [List.getElem?_set_ne (Ne.symm hki)] at hq
    refine (hP k q hq).kept (hk q.1 (hP k q hq).lt (fun h => ?_))
    rcases h with ⟨k2, e2, h⟩ | h
    · have hm := List.mem_of_getElem? h
      rw [List.mem_singleton] at hm
      have h1 : q.1 = a := congrArg Prod.fst hm
      exact hki (hD.1 k i q (a, e) hq hi h1)
    · have := (hP k q hq).lt
      omega
/-! ===== what the tables say, apart from the words ===== -/
def yc (C T : String) (U : State) : Prop := ∃ c t : ClassId, U.vm.findClass C = some c ∧ U.vm.findClass T = some t ∧ U.vm.assignable c t = true
theorem yc.moved {C T : String} {u U : State} (hvm : u.vm.Alike U.vm) (h : yc C T u) : yc C T U := by
  obtain ⟨c, t, h1, h2, h3⟩ := h
  exact ⟨c, t, by rw [hvm.findClass]; exact h1, by rw [hvm.findClass]; exact h2, by rw [hvm.assignable]; exact h3⟩
theorem yc.of {args : Array Value} {s : State} {C T : String} (h : (Cond.castable C T).before args s = true) : yc C T s := Cond.castable_spec h
theorem yc.use {args : Array Value} {s : State} {C T : String} (h : yc C T s) : (Cond.castable C T).before args s = true := by
  obtain ⟨c, t, h1, h2, h3⟩ := h
  simp [Cond.before, Cond.holds, Cond.value, h1, h2, h3]
def xA : String := "java/lang/IllegalArgumentException"
def xS : String := "java/lang/IllegalStateException"
def xB : String := "java/lang/IndexOutOfBoundsException"
def texts : List (Nat × String) := [(30, "kind, area or weight is out of range"), (41, "there are 8 kites"), (199, "there is no such kite"), (55, "the kite is not torn"), (60, "the kite would be too heavy"), (62, "skill is out of range"), (67, "there are 8 borrowers"), (201, "there is no such borrower"), (84, "the kite cannot be lent to this borrower"), (96, "the borrower has no kite that could be given back"), (107, "there is no such lane"), (110, "length is out of range"), (118, "the kite cannot fly, or the lane is not free"), (131, "lines would cross"), (139, "the kite is not flying"), (147, "speed or side is out of range"), (161, "hours is out of range"), (170, "speed is out of range"), (197, "what is out of range")]
def dR : MethodName := ⟨"java/lang/RuntimeException", "<init>", "(Ljava/lang/String;)V"⟩
def dE : MethodName := ⟨"java/lang/Exception", "<init>", "(Ljava/lang/String;)V"⟩
def dT : MethodName := ⟨"java/lang/Throwable", "<init>", "(Ljava/lang/String;)V"⟩
def EN (U : State) : Prop := (va_Nw (.methodLinkNest RX1 49 yX2_isWithin RX2) U ∧ va_Nw (.declares dR) U ∧ va_Nw (.declares dE) U ∧ va_Nw (.declares dT) U) ∧ (yc xA xA U ∧ yc xS xS U ∧ yc xB xB U) ∧ (va_Nc xS xA U ∧ va_Nc xS xB U ∧ va_Nc xA xB U) ∧ ∀ q ∈ texts, ∃ a : Nat, vk_R RX2 q.1 q.2 a U
theorem EN.same {u U : State} (h : u.vm = U.vm) (hZ : EN u) : EN U := by
  obtain ⟨⟨h1, k1, k2, k3⟩, ⟨h2, h3, h4⟩, ⟨h5, h6, h7⟩, h8⟩ := hZ
  have ha : u.vm.Alike U.vm := by rw [h]; exact Vm.Alike.refl _
  exact ⟨⟨va_Nw.same rfl h h1, va_Nw.same rfl h k1, va_Nw.same rfl h k2, va_Nw.same rfl h k3⟩, ⟨h2.moved ha, h3.moved ha, h4.moved ha⟩, ⟨h5.moved ha, h6.moved ha, h7.moved ha⟩, fun q hq => by
    obtain ⟨a, hz⟩ := h8 q hq
    exact ⟨a, vk_R.same h.symm hz⟩⟩
theorem dW {x : MethodName} {s U : State} (hW : s.WarmedH U.vm) (hZ : va_Nw (.declares x) s) : va_Nw (.declares x) U := va_tabs rfl (rfl : (s.setVm U.vm).vm = U.vm) (by rw [Cond.declares_setVm (args := #[]) hW.alike]; exact hZ)
theorem EN.warm {s U : State} (hW : s.WarmedH U.vm) (hZ : EN s) : EN U := by
  obtain ⟨⟨h1, k1, k2, k3⟩, ⟨h2, h3, h4⟩, ⟨h5, h6, h7⟩, h8⟩ := hZ
  exact ⟨⟨va_Nw.warmM hW h1, dW hW k1, dW hW k2, dW hW k3⟩, ⟨h2.moved hW.alike, h3.moved hW.alike, h4.moved hW.alike⟩, ⟨h5.moved hW.alike, h6.moved hW.alike, h7.moved hW.alike⟩, fun q hq => by
    obtain ⟨a, hz⟩ := h8 q hq
    exact ⟨a, vk_R.warm hW hz⟩⟩
def EH (A : Nat → Prop) (U : State) (H : Heap) : Prop := vx_Zq Bundle.tN "UNASSIGNED_STACK" Bundle.steD A U H ∧ vx_Zq Bundle.tN "SUPPRESSED_SENTINEL" Bundle.listD A U H
theorem EH.moved {A : Nat → Prop} {u U : State} {H : Heap} (hvm : u.vm.Alike U.vm) (h : EH A u H) : EH A U H := ⟨h.1.moved hvm, h.2.moved hvm⟩
theorem EH.kept {A : Nat → Prop} {U : State} {H H1 : Heap} (h : EH A U H) (hq : ∀ a : Nat, a < H.size → ¬ A a → H1[a]? = H[a]?) : EH A U H1 := ⟨h.1.kept hq, h.2.kept hq⟩
theorem EH.narrow {A B : Nat → Prop} {U : State} {H : Heap} (h : EH A U H) (hAB : ∀ q, B q → A q) : EH B U H := ⟨h.1.narrow hAB, h.2.narrow hAB⟩
/-! ===== what a method is given ===== -/
/-- to read: the cells, the classes -/
def PRo (dC : Nat → ClassId) (dI : Nat → Nat → Nat) (tys : List (ClassId × FieldType)) (ws : va_W) (U : State) : Prop := va_P (dC, dI) vwCl ws U.heap ∧ va_K (dC, dI) vwCl tys U ∧ EN U
theorem PRo.blind {dC : Nat → ClassId} {dI : Nat → Nat → Nat} {tys : List (ClassId × FieldType)} {ws : va_W} {av : List Value} : FrameBlind (va_Pc av (PRo dC dI tys ws)) := fun a U g mk q => by
  obtain ⟨q0, qP, qK, qE⟩ := q
  exact ⟨q0, qP, va_K.moved (u := U) (U := U.calling g mk a) (Vm.Alike.refl U.vm) qK, EN.same (u := U) (U := U.calling g mk a) rfl qE⟩
theorem PRo.pre {dC : Nat → ClassId} {dI : Nat → Nat → Nat} {tys : List (ClassId × FieldType)} {ws : va_W} {s : State} {H : Heap} {av : List Value} (hP : va_P (dC, dI) vwCl ws H) (hK : va_K (dC, dI) vwCl tys s) (hE : EN s) : ∀ U : State, U.heap = H → s.WarmedH U.vm → va_Pc av (PRo dC dI tys ws) av.toArray U := fun U hU hW => ⟨rfl, by rw [hU]; exact hP, va_K.moved hW.alike hK, hE.warm hW⟩
/-- to write: the cells, apart, and the heap's size; what a throw needs -/
def PWr (dC : Nat → ClassId) (dI : Nat → Nat → Nat) (tys : List (ClassId × FieldType)) (ws : va_W) (sz : Nat) (U : State) : Prop := U.heap.size = sz ∧ va_P (dC, dI) vwCl ws U.heap ∧ va_K (dC, dI) vwCl tys U ∧ va_D (fun _ => True) ws ∧ EN U ∧ EH (va_A ws sz) U U.heap
theorem PWr.blind {dC : Nat → ClassId} {dI : Nat → Nat → Nat} {tys : List (ClassId × FieldType)} {ws : va_W} {sz : Nat} {av : List Value} : FrameBlind (va_Pc av (PWr dC dI tys ws sz)) := fun a U g mk q => by
  obtain ⟨q0, q1, qP, qK, qD, qE, qH⟩ := q
  exact ⟨q0, q1, qP, va_K.moved (u := U) (U := U.calling g mk a) (Vm.Alike.refl U.vm) qK, qD, EN.same (u := U) (U := U.calling g mk a) rfl qE, EH.moved (u := U) (U := U.calling g mk a) (Vm.Alike.refl U.vm) qH⟩
theorem PWr.pre {dC : Nat → ClassId} {dI : Nat → Nat → Nat} {tys : List (ClassId × FieldType)} {ws : va_W} {s : State} {H : Heap} {av : List Value} {A : Nat → Prop} (hP : va_P (dC, dI) vwCl ws H) (hK : va_K (dC, dI) vwCl tys s) (hD : va_D A ws) (hE : EN s) (hH : EH (va_A ws H.size) s H) : ∀ U : State, U.heap = H → s.WarmedH U.vm → va_Pc av (PWr dC dI tys ws H.size) av.toArray U := fun U hU hW => ⟨rfl, by rw [hU], by rw [hU]; exact hP, va_K.moved hW.alike hK, hD.weaken (fun _ _ _ _ => trivial), hE.warm hW, by rw [hU]; exact hH.moved hW.alike⟩
end
section
/-! ===== the state as numbers: n kites, p borrowers, rows of ints: 0 kind, 1 area, 2 weight, 3 torn, 4 wet, 5 who has it, 6 its lane, 7 its length, 8 a borrower's skill, 9: speed, side, rain, called ===== -/
abbrev Rows : Type := Nat → Nat → Int32
def ro (F : Rows) (i : Nat) (r : Nat → Int32) : Rows := fun j => cond (Nat.beq j i) r (F j)
theorem ro_s (F : Rows) (i : Nat) (r : Nat → Int32) : ro F i r i = r := by simp [ro]
theorem ro_n {F : Rows} {i j : Nat} (r : Nat → Int32) (h : j ≠ i) : ro F i r j = F j := by
  have : Nat.beq j i = false := by
    cases hb : Nat.beq j i with
    | false => rfl
    | true => exact absurd (Nat.eq_of_beq_eq_true hb) h
  simp only [ro, this, cond_false]
def up (F : Rows) (i k : Nat) (v : Int32) : Rows := ro F i (upd (F i) k v)
theorem up_r (F : Rows) (i k : Nat) (v : Int32) : up F i k v i = upd (F i) k v := ro_s F i _
theorem up_ss (F : Rows) (i k : Nat) (v : Int32) : up F i k v i k = v := by rw [up_r]; simp [upd]
theorem up_sn {F : Rows} {i k j : Nat} (v : Int32) (h : j ≠ k) : up F i k v i j = F i j := by rw [up_r]; simp [upd, h]
theorem up_n {F : Rows} {i j : Nat} (k : Nat) (v : Int32) (h : j ≠ i) : up F i k v j = F j := ro_n _ h
theorem upd_s (f : Nat → Int32) (k : Nat) (v : Int32) : upd f k v k = v := by simp [upd]
theorem upd_n {f : Nat → Int32} {k j : Nat} (v : Int32) (h : j ≠ k) : upd f k v j = f j := by simp [upd, h]
theorem upd_at (f : Nat → Int32) (k : Nat) (v : Int32) (j : Nat) : upd f k v j = if j = k then v else f j := rfl
theorem upd_id (f : Nat → Int32) (k : Nat) : upd f k (f k) = f := by
  funext j; rw [upd_at]; split
  · rename_i h; rw [h]
  · rfl
/-! lifts, pulls, ends -/
def lift (kd ar sp : Int32) : Int32 := if kd = 0 then 5 * ar * sp * sp else if kd = 1 then 60 * ar * sp else 80 * ar * (if sp ≤ 10 then sp else 10)
def pl (F : Rows) (k : Nat) (sp : Int32) : Int32 := lift (F 0 k) (F 1 k) sp - 100 * F 2 k
abbrev held (F : Rows) (k : Nat) (sp : Int32) : Prop := 100 ≤ pl F k sp ∧ pl F k sp ≤ 6000
def en (F : Rows) (k : Nat) (ln len : Int32) : Int32 := 100 * ln + F 9 1 * len * 1000 / (1000 + pl F k (F 9 0))
def ed (F : Rows) (k : Nat) : Int32 := en F k (F 6 k) (F 7 k)
/-! the last place that holds a number -/
def lk (g : Nat → Int32) : Nat → Int32 → Option Nat
  | 0, _ => none
  | n + 1, v => if g n = v then some n else lk g n v
def oI : Option Nat → Int32
  | none => -1
  | some k => nI k
theorem lk_some {g : Nat → Int32} {n k : Nat} {v : Int32} (h : lk g n v = some k) : k < n ∧ g k = v := by
  induction n with
  | zero => cases h
  | succ n ih =>
    rw [lk] at h
    split at h
    · cases h; exact ⟨Nat.lt_succ_self _, by assumption⟩
    · exact ⟨Nat.lt_succ_of_lt (ih h).1, (ih h).2⟩
theorem lk_none {g : Nat → Int32} {n : Nat} {v : Int32} : lk g n v = none ↔ ∀ k, k < n → g k ≠ v := by
  induction n with
  | zero => exact ⟨fun _ k hk => absurd hk (Nat.not_lt_zero k), fun _ => rfl⟩
  | succ n ih =>
    rw [lk]
    split
    · rename_i h
      exact ⟨fun q => absurd q (by simp), fun q => absurd h (q n (Nat.lt_succ_self n))⟩
    · rename_i h
      rw [ih]
      refine ⟨fun q k hk => ?_, fun q k hk => q k (Nat.lt_succ_of_lt hk)⟩
      rcases Nat.lt_or_ge k n with h1 | h1
      · exact q k h1
      · rw [show k = n by omega]; exact h
theorem lk_uniq {g : Nat → Int32} {n k : Nat} {v : Int32} (hk : k < n) (hv : g k = v) (hu : ∀ j, j < n → g j = v → j = k) : lk g n v = some k := by
  cases h : lk g n v with
  | none => exact absurd hv (lk_none.mp h k hk)
  | some j =>
    obtain ⟨h1, h2⟩ := lk_some h
    rw [hu j h1 h2]
theorem lk_congr {f g : Nat → Int32} {n : Nat} {v : Int32} (h : ∀ k, k < n → (f k = v ↔ g k = v)) : lk f n v = lk g n v := by
  induction n with
  | zero => rfl
  | succ n ih =>
    rw [lk, lk, ih (fun k hk => h k (Nat.lt_succ_of_lt hk))]
    by_cases q : f n = v
    · rw [if_pos q, if_pos ((h n (Nat.lt_succ_self n)).mp q)]
    · rw [if_neg q, if_neg (fun z => q ((h n (Nat.lt_succ_self n)).mpr z))]
/-- a place is given up -/
theorem lk_drop {g : Nat → Int32} {n k : Nat} {v : Int32} (hv : v ≠ -1) (hk : g k = v) (hu : ∀ j, j < n → g j = v → j = k) : lk (upd g k (-1)) n v = none := by
  rw [lk_none]
  intro j hj
  rw [upd_at]
  split
  · exact fun h => hv h.symm
  · rename_i h
    exact fun q => h (hu j hj q)
theorem lk_drop_ne {g : Nat → Int32} {n k : Nat} {v w : Int32} (hk : g k = v) (hw : w ≠ -1) (hvw : w ≠ v) : lk (upd g k (-1)) n w = lk g n w := by
  refine lk_congr fun j _ => ?_
  rw [upd_at]
  split
  · rename_i h
    subst h
    exact ⟨fun q => absurd q.symm hw, fun q => absurd (q.symm.trans hk) hvw⟩
  · exact Iff.rfl
/-- a place is taken -/
theorem lk_take {g : Nat → Int32} {n k : Nat} {v : Int32} (hk : k < n) (h : lk g n v = none) : lk (upd g k v) n v = some k := by
  refine lk_uniq hk (upd_s g k v) (fun j hj hq => ?_)
  rw [upd_at] at hq
  split at hq
  · assumption
  · exact absurd hq (lk_none.mp h j hj)
theorem lk_take_ne {g : Nat → Int32} {n k : Nat} {v w : Int32} (hk : g k = -1) (hw : w ≠ -1) (hvw : w ≠ v) : lk (upd g k v) n w = lk g n w := by
  refine lk_congr fun j _ => ?_
  rw [upd_at]
  split
  · rename_i h
    subst h
    exact ⟨fun q => absurd q.symm hvw, fun q => absurd (q.symm.trans hk) hw⟩
  · exact Iff.rfl
theorem lk_new {g : Nat → Int32} {n : Nat} {w : Int32} (hw : w ≠ -1) : lk (upd g n (-1)) (n + 1) w = lk g n w := by
  rw [lk, if_neg (by rw [upd_s]; exact fun q => hw q.symm)]
  exact lk_congr fun j hj => by rw [upd_n _ (Nat.ne_of_lt hj)]
theorem nI_m1 {k : Nat} (h : k < 2147483648) : nI k ≠ -1 := by
  intro q
  have h1 := congrArg Int32.toInt q
  rw [nI_toInt h] at h1
  have h2 : (-1 : Int32).toInt = -1 := by decide
  omega
theorem nI_inj {a b : Nat} (ha : a < 2147483648) (hb : b < 2147483648) (h : nI a = nI b) : a = b := (nI_eq ha hb).mp h
theorem oI_m1 {o : Option Nat} (h : ∀ k, o = some k → k < 2147483648) : oI o = -1 ↔ o = none := by
  cases o with
  | none => exact ⟨fun _ => rfl, fun _ => rfl⟩
  | some k => exact ⟨fun q => absurd q (nI_m1 (h k rfl)), fun q => by cases q⟩
/-! numbers of things -/
abbrev inR (n : Nat) (x : Int32) : Prop := 0 ≤ x.toInt ∧ x.toInt < n
theorem inR_nI {n k : Nat} (hk : k < n) (hn : n < 2147483648) : inR n (nI k) := by
  unfold inR
  rw [nI_toInt (Nat.lt_trans hk hn)]
  omega
theorem inR_of {n : Nat} {x : Int32} (h : inR n x) : ∃ k, k < n ∧ x = nI k := by
  obtain ⟨h1, h2⟩ := h
  refine ⟨x.toInt.toNat, by omega, ?_⟩
  apply Int32.toInt_inj.mp
  have h3 : x.toInt < 2147483648 := by have := Int32.toInt_lt x; omega
  rw [nI_toInt (by omega)]
  omega
theorem inR_cases (n : Nat) (x : Int32) : (∃ k, k < n ∧ x = nI k) ∨ ¬ inR n x := by
  by_cases h : inR n x
  · exact Or.inl (inR_of h)
  · exact Or.inr h
def ix (n : Nat) (x : Int32) : Option Nat := if inR n x then some x.toNatClampNeg else none
theorem ix_t {n k : Nat} (hk : k < n) (hn : n < 2147483648) : ix n (nI k) = some k := by
  rw [ix, if_pos (inR_nI hk hn), nI_clamp (Nat.lt_trans hk hn)]
theorem ix_f {n : Nat} {x : Int32} (h : ¬ inR n x) : ix n x = none := by rw [ix, if_neg h]
theorem i32_lt (a b : Int32) : a < b ↔ a.toInt < b.toInt := Int32.lt_iff_toInt_lt
theorem i32_le (a b : Int32) : a ≤ b ↔ a.toInt ≤ b.toInt := Int32.le_iff_toInt_le
/-- 'isIn(its, 0, n - 1)' -/
theorem inR_iff {n : Nat} (hn : n < 1000) (x : Int32) : (0 ≤ x ∧ x ≤ nI n - 1) ↔ inR n x := by
  have h1 : (nI n - 1).toInt = (n : Int) - 1 := by
    have := pk_sub_toInt (a := n) (b := 1) (by omega) (by omega)
    exact this
  rw [i32_le, i32_le, h1]
  unfold inR
  have h0 : (0 : Int32).toInt = 0 := by decide
  omega
theorem inR_lit {n : Nat} {m : Int32} (hm : m.toInt = (n : Int) - 1) (x : Int32) : (0 ≤ x ∧ x ≤ m) ↔ inR n x := by
  rw [i32_le, i32_le, hm]
  unfold inR
  have h0 : (0 : Int32).toInt = 0 := by decide
  omega
/-! ===== what each call answers: the place of its exception (0: none), its answer, the state behind it ===== -/
def S_kite (n : Nat) (F : Rows) (kd ar wt : Int32) : Int32 × Int32 × Nat × Rows := if (0 ≤ kd ∧ kd ≤ 2) ∧ (1 ≤ ar ∧ ar ≤ 20) ∧ (1 ≤ wt ∧ wt ≤ 20) then (if n = 8 then (2, 0, n, F) else (0, nI n, n + 1, up (up (up (up (up F 0 n kd) 1 n ar) 2 n wt) 5 n (-1)) 6 n (-1))) else (1, 0, n, F)
def S_patch (n : Nat) (F : Rows) (its : Int32) : Int32 × Int32 × Rows := match ix n its with
  | none => (1, 0, F)
  | some k => if ¬ F 3 k = 0 ∧ F 2 k + 2 ≤ 40 then (0, F 2 k + 2, up (up F 3 k 0) 2 k (F 2 k + 2)) else (2, 0, F)
def S_borrower (p : Nat) (F : Rows) (sk : Int32) : Int32 × Int32 × Nat × Rows := if 1 ≤ sk ∧ sk ≤ 3 then (if p = 8 then (2, 0, p, F) else (0, nI p, p + 1, up F 8 p sk)) else (1, 0, p, F)
def S_lend (n p : Nat) (F : Rows) (its b : Int32) : Int32 × Rows := match ix n its with
  | none => (1, F)
  | some k => match ix p b with
    | none => (1, F)
    | some j => if F 5 k = -1 ∧ F 3 k = 0 ∧ F 4 k = 0 ∧ lk (F 5) n (nI j) = none ∧ F 0 k < F 8 j then (0, up F 5 k (nI j)) else (2, F)
def S_giveBack (n p : Nat) (F : Rows) (b : Int32) : Int32 × Int32 × Rows := match ix p b with
  | none => (1, 0, F)
  | some j => match lk (F 5) n (nI j) with
    | none => (2, 0, F)
    | some k => if F 6 k = -1 then (0, nI k, up F 5 k (-1)) else (2, 0, F)
/-- the lines that fly leave a new one its room -/
abbrev clr (F : Rows) (n k : Nat) (ln len : Int32) : Prop := ∀ j, j < n → ¬ (¬ F 6 j = -1 ∧ F 6 j < ln ∧ en F k ln len ≤ ed F j) ∧ ¬ (¬ F 6 j = -1 ∧ ln < F 6 j ∧ ed F j ≤ en F k ln len)
def S_fly (n : Nat) (F : Rows) (its ln len : Int32) : Int32 × Int32 × Rows := match ix n its with
  | none => (1, 0, F)
  | some k => match ix 10 ln with
    | none => (1, 0, F)
    | some l => if 10 ≤ len ∧ len ≤ 100 then (if ¬ F 5 k = -1 ∧ F 3 k = 0 ∧ F 6 k = -1 ∧ held F k (F 9 0) ∧ lk (F 6) n (nI l) = none ∧ clr F n k (nI l) len then (0, en F k (nI l) len, up (up F 6 k (nI l)) 7 k len) else (3, 0, F)) else (2, 0, F)
def S_land (n : Nat) (F : Rows) (its : Int32) : Int32 × Int32 × Rows := match ix n its with
  | none => (1, 0, F)
  | some k => if F 6 k = -1 then (2, 0, F) else (0, F 6 k, up F 6 k (-1))
def cnt (b : Nat → Bool) : Nat → Nat
  | 0 => 0
  | n + 1 => cnt b n + (if b n then 1 else 0)
/-- those of b come down, as they don't hold -/
def mvd (F : Rows) (n : Nat) (b : Nat → Bool) : Rows := ro (ro (ro F 3 (fun j => if b j then bi (6000 < pl F j (F 9 0)) else F 3 j)) 6 (fun j => if b j then -1 else F 6 j)) 9 (upd (F 9) 3 (F 9 3 + nI (cnt b n)))
def unh (F : Rows) (j : Nat) : Bool := decide (¬ F 6 j = -1 ∧ ¬ held F j (F 9 0))
def uh (F : Rows) (n : Nat) : Rows := mvd F n (fun j => decide (j < n) && unh F j)
/-- the lines in lanes l and h cross -/
def crs (F : Rows) (n l h : Nat) : Prop := ∃ a b, lk (F 6) n (nI l) = some a ∧ lk (F 6) n (nI h) = some b ∧ ed F b ≤ ed F a
/-- the kite that comes down of the first two lines that cross; none -/
def FC (F : Rows) (n : Nat) : Option Nat → Prop
  | none => ∀ l h, l < h → h < 10 → ¬ crs F n l h
  | some k => ∃ l h a b, l < h ∧ h < 10 ∧ lk (F 6) n (nI l) = some a ∧ lk (F 6) n (nI h) = some b ∧ ed F b ≤ ed F a ∧ (∀ l' h', l' < h' → h' < 10 → (l' < l ∨ (l' = l ∧ h' < h)) → ¬ crs F n l' h') ∧ k = (if pl F a (F 9 0) < pl F b (F 9 0) then a else b)
theorem FC_one {F : Rows} {n : Nat} {o o' : Option Nat} (h : FC F n o) (h' : FC F n o') : o = o' := by
  cases o with
  | none =>
    cases o' with
    | none => rfl
    | some k =>
      obtain ⟨l, hh, a, b, h1, h2, h3, h4, h5, -⟩ := h'
      exact absurd ⟨a, b, h3, h4, h5⟩ (h l hh h1 h2)
  | some k =>
    obtain ⟨l, hh, a, b, h1, h2, h3, h4, h5, h6, h7⟩ := h
    cases o' with
    | none => exact absurd ⟨a, b, h3, h4, h5⟩ (h' l hh h1 h2)
    | some k' =>
      obtain ⟨l', hh', a', b', g1, g2, g3, g4, g5, g6, g7⟩ := h'
      have e1 : l = l' := by
        rcases Nat.lt_trichotomy l l' with q | q | q
        · exact absurd ⟨a, b, h3, h4, h5⟩ (g6 l hh h1 h2 (Or.inl q))
        · exact q
        · exact absurd ⟨a', b', g3, g4, g5⟩ (h6 l' hh' g1 g2 (Or.inl q))
      subst e1
      have e2 : hh = hh' := by
        rcases Nat.lt_trichotomy hh hh' with q | q | q
        · exact absurd ⟨a, b, h3, h4, h5⟩ (g6 l hh h1 h2 (Or.inr ⟨rfl, q⟩))
        · exact q
        · exact absurd ⟨a', b', g3, g4, g5⟩ (h6 l hh' g1 g2 (Or.inr ⟨rfl, q⟩))
      subst e2
      cases h3.symm.trans g3
      cases h4.symm.trans g4
      rw [h7, g7]
theorem FC_ex (F : Rows) (n : Nat) : ∃ o, FC F n o := by
  by_cases h : ∃ l, ∃ hh, l < hh ∧ hh < 10 ∧ crs F n l hh
  · obtain ⟨l, hl, hmin⟩ := pk_least _ h
    obtain ⟨hh, ⟨h1, h2, hc⟩, hmin2⟩ := pk_least _ hl
    obtain ⟨a, b, h3, h4, h5⟩ := id hc
    refine ⟨some (if pl F a (F 9 0) < pl F b (F 9 0) then a else b), l, hh, a, b, h1, h2, h3, h4, h5, fun l' h' g1 g2 g => ?_, rfl⟩
    rcases g with g | ⟨rfl, g⟩
    · exact fun q => hmin l' g ⟨h', g1, g2, q⟩
    · exact fun q => hmin2 h' g ⟨g1, g2, q⟩
  · exact ⟨none, fun l hh h1 h2 hc => h ⟨l, hh, h1, h2, hc⟩⟩
noncomputable def cK (F : Rows) (n : Nat) : Option Nat := Classical.choose (FC_ex F n)
theorem cK_spec (F : Rows) (n : Nat) : FC F n (cK F n) := Classical.choose_spec (FC_ex F n)
theorem cK_of {F : Rows} {n : Nat} {o : Option Nat} (h : FC F n o) : cK F n = o := FC_one (cK_spec F n) h
def dn (F : Rows) (k : Nat) : Rows := up (up F 6 k (-1)) 9 3 (F 9 3 + 1)
noncomputable def stl (n : Nat) : Nat → Rows → Rows
  | 0, F => F
  | m + 1, F => match cK F n with
    | none => F
    | some k => stl n m (dn F k)
noncomputable def S_wind (n : Nat) (F : Rows) (sp sd : Int32) : Int32 × Int32 × Rows := if (0 ≤ sp ∧ sp ≤ 30) ∧ (-5 ≤ sd ∧ sd ≤ 5) then (0, stl n 10 (uh (up (up F 9 0 sp) 9 1 sd) n) 9 3 - F 9 3, stl n 10 (uh (up (up F 9 0 sp) 9 1 sd) n)) else (1, 0, F)
def wetv (F : Rows) (h : Int32) (j : Nat) : Int32 := if ¬ F 9 2 = 0 ∧ ¬ F 6 j = -1 then 6 else if h < F 4 j then F 4 j - h else 0
def wetF (F : Rows) (n : Nat) (h : Int32) : Rows := ro F 4 (fun j => if j < n then wetv F h j else F 4 j)
def S_pass (n : Nat) (F : Rows) (h : Int32) : Int32 × Int32 × Rows := if 1 ≤ h ∧ h ≤ 24 then (0, nI (cnt (fun j => decide (0 < wetv F h j)) n), wetF F n h) else (1, 0, F)
def S_pull (n : Nat) (F : Rows) (its sp : Int32) : Int32 × Int32 := match ix n its with
  | none => (1, 0)
  | some k => if 0 ≤ sp ∧ sp ≤ 30 then (0, pl F k sp) else (2, 0)
def wd (F : Rows) (k : Nat) (g : Int32) : Nat → Int32
  | 0 => -1
  | m + 1 => if held F k (nI m) ∧ (¬ g = 0 ∨ wd F k g m = -1) then nI m else wd F k g m
def S_window (n : Nat) (F : Rows) (its g : Int32) : Int32 × Int32 := match ix n its with
  | none => (1, 0)
  | some k => (0, wd F k g 31)
def S_about (n : Nat) (F : Rows) (its w : Int32) : Int32 × Int32 := match ix n its with
  | none => (1, 0)
  | some k => if w = 0 then (0, F 2 k) else if w = 1 then (0, F 3 k) else if w = 2 then (0, F 4 k) else if w = 3 then (0, F 5 k) else if w = 4 then (0, F 6 k) else if w = 5 then (0, if F 6 k = -1 then -1 else ed F k) else (2, 0)
def S_lane (n : Nat) (F : Rows) (ln : Int32) : Int32 × Int32 := match ix 10 ln with
  | none => (1, 0)
  | some l => (0, oI (lk (F 6) n (nI l)))
/-! ===== what holds between calls ===== -/
def kOK (n p : Nat) (F : Rows) (k : Nat) : Prop := (F 0 k = 0 ∨ F 0 k = 1 ∨ F 0 k = 2) ∧ (1 ≤ F 1 k ∧ F 1 k ≤ 20) ∧ (1 ≤ F 2 k ∧ F 2 k ≤ 40) ∧ (F 3 k = 0 ∨ F 3 k = 1) ∧ (∃ w, w ≤ 6 ∧ F 4 k = nI w) ∧ (F 5 k = -1 ∨ ∃ j, j < p ∧ F 5 k = nI j) ∧ (F 6 k = -1 ∨ ∃ l, l < 10 ∧ F 6 k = nI l) ∧ (¬ F 6 k = -1 → F 3 k = 0 ∧ ¬ F 5 k = -1 ∧ held F k (F 9 0))
def uq (n : Nat) (g : Nat → Int32) : Prop := ∀ a b, a < n → b < n → g a = g b → ¬ g a = -1 → a = b
def Inv (n p : Nat) (F : Rows) : Prop := (n ≤ 8 ∧ p ≤ 8) ∧ (∀ k, k < n → kOK n p F k) ∧ (∀ k, n ≤ k → F 3 k = 0 ∧ F 4 k = 0 ∧ F 7 k = 0) ∧ (uq n (F 5) ∧ uq n (F 6)) ∧ ((0 ≤ F 9 0 ∧ F 9 0 ≤ 30) ∧ (F 9 2 = 0 ∨ F 9 2 = 1)) ∧ ∀ l h, l < h → h < 10 → ¬ crs F n l h
end
section
/-! ===== the cells of both sides ===== -/
abbrev kE (F : Rows) (k : Nat) : va_E := .inr (1, [.int (nI k), .int (F 0 k), .int (F 1 k), .int (F 2 k), .int (F 3 k), .int (F 4 k), .int (F 5 k), .int (F 6 k), .int (F 7 k)])
abbrev bE (ka : Nat → Nat) (F : Rows) (hb : Nat → Option Nat) (j : Nat) : va_E := .inr (0, [.int (F 8 j), va_rf ((hb j).map ka)])
def kL (ka : Nat → Nat) (F : Rows) (n : Nat) : va_W := (List.range n).map (fun k => (ka k, kE F k))
def bL (ka kb : Nat → Nat) (F : Rows) (hb : Nat → Option Nat) (p : Nat) : va_W := (List.range p).map (fun j => (kb j, bE ka F hb j))
abbrev qA (n : Nat) (f : Nat → Option Nat) : vp_A := (n, .inr (.inr (.inr (.inr f))))
abbrev kF (ka : Nat → Nat) (n : Nat) : Nat → Option Nat := fun k => if k < n then some (ka k) else none
abbrev lF (ka : Nat → Nat) (fl : Nat → Option Nat) : Nat → Option Nat := fun l => (fl l).map ka
abbrev oC (h ak ab af n p : Nat) (F : Rows) : Nat × va_E := (h, .inr (2, [.ref ak, .int (nI n), .ref ab, .int (nI p), .ref af, .int (F 9 0), .int (F 9 1), .int (F 9 2), .int (F 9 3)]))
abbrev cG (cK cB : ClassId) (h ak ab af : Nat) (ka kb : Nat → Nat) (n p : Nat) (F : Rows) (fl hb : Nat → Option Nat) : va_W := oC h ak ab af n p F :: (ak, .inl (cK, qA 8 (kF ka n))) :: (ab, .inl (cB, qA 8 (kF kb p))) :: (af, .inl (cK, qA 10 (lF ka fl))) :: (kL ka F n ++ bL ka kb F hb p)
def flF (F : Rows) (n : Nat) : Nat → Option Nat := fun l => if l < 10 then lk (F 6) n (nI l) else none
def hbF (F : Rows) (n : Nat) : Nat → Option Nat := fun j => if j < 8 then lk (F 5) n (nI j) else none
abbrev cW (cK cB : ClassId) (h ak ab af : Nat) (ka kb : Nat → Nat) (n p : Nat) (F : Rows) : va_W := cG cK cB h ak ab af ka kb n p F (flF F n) (hbF F n)
abbrev rW (cI cZ : ClassId) (h : Nat) (a : Nat → Nat) (th : Int32) (n p : Nat) (F : Rows) : va_W := [(h, .inr (3, [.int th, .int (nI n), .ref (a 0), .ref (a 1), .ref (a 2), .ref (a 3), .ref (a 4), .ref (a 5), .ref (a 6), .ref (a 7), .int (nI p), .ref (a 8), .int (F 9 0), .int (F 9 1), .int (F 9 2), .int (F 9 3)])), (a 0, .inl (cI, 8, .inl (F 0))), (a 1, .inl (cI, 8, .inl (F 1))), (a 2, .inl (cI, 8, .inl (F 2))), (a 3, .inl (cZ, 8, .inl (F 3))), (a 4, .inl (cI, 8, .inl (F 4))), (a 5, .inl (cI, 8, .inl (F 5))), (a 6, .inl (cI, 8, .inl (F 6))), (a 7, .inl (cI, 8, .inl (F 7))), (a 8, .inl (cI, 8, .inl (F 8)))]
theorem map_set {α : Type} {f g : Nat → α} {n k : Nat} (h : ∀ j, j < n → j ≠ k → f j = g j) : ((List.range n).map f).set k (g k) = (List.range n).map g := by
  apply List.ext_getElem?
  intro j
  rw [List.getElem?_set]
  by_cases hj : k = j
  · subst hj
    rw [if_pos rfl]
    by_cases hn : k < n
    · simp [hn]
    · simp [hn]
  · rw [if_neg hj]
    by_cases hn : j < n
    · simp [hn, h j hn (fun q => hj q.symm)]
    · simp [hn]
theorem kL_len (ka : Nat → Nat) (F : Rows) (n : Nat) : (kL ka F n).length = n := by simp [kL]
theorem cG_k {cK cB : ClassId} {h ak ab af : Nat} {ka kb : Nat → Nat} {n p : Nat} {F : Rows} {fl hb : Nat → Option Nat} {k : Nat} (hk : k < n) : (cG cK cB h ak ab af ka kb n p F fl hb)[k + 4]? = some (ka k, kE F k) := by
  show (kL ka F n ++ bL ka kb F hb p)[k]? = _
  rw [List.getElem?_append_left (by rw [kL_len]; exact hk)]
  simp [kL, hk]
theorem cG_b {cK cB : ClassId} {h ak ab af : Nat} {ka kb : Nat → Nat} {n p : Nat} {F : Rows} {fl hb : Nat → Option Nat} {j : Nat} (hj : j < p) : (cG cK cB h ak ab af ka kb n p F fl hb)[n + j + 4]? = some (kb j, bE ka F hb j) := by
  show (kL ka F n ++ bL ka kb F hb p)[n + j]? = _
  rw [List.getElem?_append_right (by rw [kL_len]; omega), kL_len, Nat.add_sub_cancel_left]
  simp [bL, hj]
theorem cG_setk {cK cB : ClassId} {h ak ab af : Nat} {ka kb : Nat → Nat} {n p : Nat} {F F' : Rows} {fl hb : Nat → Option Nat} {k : Nat} (hk : k < n) (hF : ∀ i j, i < 8 → j ≠ k → F' i j = F i j) (h8 : F' 8 = F 8) (h9 : F' 9 = F 9) : (cG cK cB h ak ab af ka kb n p F fl hb).set (k + 4) (ka k, kE F' k) = cG cK cB h ak ab af ka kb n p F' fl hb := by
  show oC h ak ab af n p F :: (ak, _) :: (ab, _) :: (af, _) :: (kL ka F n ++ bL ka kb F hb p).set k (ka k, kE F' k) = _
  rw [List.set_append_left _ _ (by rw [kL_len]; exact hk)]
  have e1 : (kL ka F n).set k (ka k, kE F' k) = kL ka F' n := map_set (f := fun k => (ka k, kE F k)) (g := fun k => (ka k, kE F' k)) (fun j _ hj => by
    show (ka j, kE F j) = (ka j, kE F' j)
    unfold kE
    rw [hF 0 j (by decide) hj, hF 1 j (by decide) hj, hF 2 j (by decide) hj, hF 3 j (by decide) hj, hF 4 j (by decide) hj, hF 5 j (by decide) hj, hF 6 j (by decide) hj, hF 7 j (by decide) hj])
  have e2 : bL ka kb F hb p = bL ka kb F' hb p := by unfold bL bE; rw [h8]
  have e3 : oC h ak ab af n p F = oC h ak ab af n p F' := by unfold oC; rw [h9]
  rw [e1, e2, e3]
theorem cG_up {cK cB : ClassId} {h ak ab af : Nat} {ka kb : Nat → Nat} {n p : Nat} {F : Rows} {fl hb : Nat → Option Nat} {k i : Nat} {v : Int32} (hk : k < n) (hi : i < 8) : (cG cK cB h ak ab af ka kb n p F fl hb).set (k + 4) (ka k, kE (up F i k v) k) = cG cK cB h ak ab af ka kb n p (up F i k v) fl hb := by
  refine cG_setk hk (fun i' j hi' hj => ?_) (up_n k v (by omega)) (up_n k v (by omega))
  by_cases e : i' = i
  · subst e; exact up_sn v hj
  · rw [up_n k v e]
theorem cG_setb {cK cB : ClassId} {h ak ab af : Nat} {ka kb : Nat → Nat} {n p : Nat} {F : Rows} {fl hb : Nat → Option Nat} {j : Nat} {o : Option Nat} (hj : j < p) : (cG cK cB h ak ab af ka kb n p F fl hb).set (n + j + 4) (kb j, .inr (0, [.int (F 8 j), va_rf (o.map ka)])) = cG cK cB h ak ab af ka kb n p F fl (va_up hb j o) := by
  show oC h ak ab af n p F :: (ak, _) :: (ab, _) :: (af, _) :: (kL ka F n ++ bL ka kb F hb p).set (n + j) (kb j, .inr (0, [.int (F 8 j), va_rf (o.map ka)])) = _
  rw [List.set_append_right _ _ (by rw [kL_len]; omega), kL_len, Nat.add_sub_cancel_left]
  have e1 : (bL ka kb F hb p).set j (kb j, .inr (0, [.int (F 8 j), va_rf (o.map ka)])) = bL ka kb F (va_up hb j o) p := by
    have e0 : ((kb j, .inr (0, [.int (F 8 j), va_rf (o.map ka)])) : Nat × va_E) = (kb j, bE ka F (va_up hb j o) j) := by unfold bE; rw [va_up_self]
    rw [e0]
    exact map_set (f := fun j => (kb j, bE ka F hb j)) (g := fun j' => (kb j', bE ka F (va_up hb j o) j')) (fun j' _ hj' => by
      show (kb j', bE ka F hb j') = (kb j', bE ka F (va_up hb j o) j')
      unfold bE; rw [va_up_ne _ _ hj'])
  rw [e1]
theorem cG_setf {cK cB : ClassId} {h ak ab af : Nat} {ka kb : Nat → Nat} {n p : Nat} {F : Rows} {fl hb : Nat → Option Nat} {l : Nat} {o : Option Nat} : (cG cK cB h ak ab af ka kb n p F fl hb).set 3 (af, .inl (cK, qA 10 (va_up (lF ka fl) l (o.map ka)))) = cG cK cB h ak ab af ka kb n p F (va_up fl l o) hb := by
  have e : va_up (lF ka fl) l (o.map ka) = lF ka (va_up fl l o) := by
    funext j
    by_cases hj : j = l
    · subst hj; rw [va_up_self]; show _ = (va_up fl j o j).map ka; rw [va_up_self]
    · rw [va_up_ne _ _ hj]; show (fl j).map ka = (va_up fl l o j).map ka; rw [va_up_ne _ _ hj]
  rw [e]
  rfl
theorem cG_sc {cK cB : ClassId} {h ak ab af : Nat} {ka kb : Nat → Nat} {n p : Nat} {F : Rows} {fl hb : Nat → Option Nat} {i : Nat} {v : Int32} : (cG cK cB h ak ab af ka kb n p F fl hb).set 0 (oC h ak ab af n p (up F 9 i v)) = cG cK cB h ak ab af ka kb n p (up F 9 i v) fl hb := rfl
theorem cG_flhb {cK cB : ClassId} {h ak ab af : Nat} {ka kb : Nat → Nat} {n p : Nat} {F : Rows} {fl hb fl' hb' : Nat → Option Nat} (h1 : fl = fl') (h2 : ∀ j, j < p → hb j = hb' j) : cG cK cB h ak ab af ka kb n p F fl hb = cG cK cB h ak ab af ka kb n p F fl' hb' := by
  subst h1
  have e : bL ka kb F hb p = bL ka kb F hb' p := by
    unfold bL
    refine List.map_congr_left (fun j hj => ?_)
    unfold bE
    rw [h2 j (List.mem_range.mp hj)]
  show _ :: _ :: _ :: _ :: (kL ka F n ++ bL ka kb F hb p) = _
  rw [e]
theorem flF_at {F : Rows} {n l : Nat} (h : l < 10) : flF F n l = lk (F 6) n (nI l) := if_pos h
theorem hbF_at {F : Rows} {n j : Nat} (h : j < 8) : hbF F n j = lk (F 5) n (nI j) := if_pos h
/-- a lane is left -/
theorem flF_drop {F : Rows} {n k l : Nat} (hl : l < 10) (hk : F 6 k = nI l) (hu : ∀ j, j < n → F 6 j = nI l → j = k) : va_up (flF F n) l none = flF (up F 6 k (-1)) n := by
  funext j
  by_cases hj : j < 10
  · rw [flF_at hj, up_r]
    by_cases e : j = l
    · subst e
      rw [va_up_self, lk_drop (nI_m1 (by omega)) hk hu]
    · rw [va_up_ne _ _ e, flF_at hj, lk_drop_ne hk (nI_m1 (by omega)) (fun q => e (nI_inj (by omega) (by omega) q))]
  · rw [va_up_ne _ _ (by omega)]
    unfold flF
    rw [if_neg hj, if_neg hj]
/-- a lane is taken -/
theorem flF_take {F : Rows} {n k l : Nat} (hl : l < 10) (hkn : k < n) (hk : F 6 k = -1) (hf : lk (F 6) n (nI l) = none) : va_up (flF F n) l (some k) = flF (up F 6 k (nI l)) n := by
  funext j
  by_cases hj : j < 10
  · rw [flF_at hj, up_r]
    by_cases e : j = l
    · subst e
      rw [va_up_self, lk_take hkn hf]
    · rw [va_up_ne _ _ e, flF_at hj, lk_take_ne hk (nI_m1 (by omega)) (fun q => e (nI_inj (by omega) (by omega) q))]
  · rw [va_up_ne _ _ (by omega)]
    unfold flF
    rw [if_neg hj, if_neg hj]
theorem hbF_drop {F : Rows} {n k l : Nat} (hl : l < 8) (hk : F 5 k = nI l) (hu : ∀ j, j < n → F 5 j = nI l → j = k) (j : Nat) : va_up (hbF F n) l none j = hbF (up F 5 k (-1)) n j := by
  by_cases hj : j < 8
  · rw [hbF_at hj, up_r]
    by_cases e : j = l
    · subst e
      rw [va_up_self, lk_drop (nI_m1 (by omega)) hk hu]
    · rw [va_up_ne _ _ e, hbF_at hj, lk_drop_ne hk (nI_m1 (by omega)) (fun q => e (nI_inj (by omega) (by omega) q))]
  · rw [va_up_ne _ _ (by omega)]
    unfold hbF
    rw [if_neg hj, if_neg hj]
theorem hbF_take {F : Rows} {n k l : Nat} (hl : l < 8) (hkn : k < n) (hk : F 5 k = -1) (hf : lk (F 5) n (nI l) = none) (j : Nat) : va_up (hbF F n) l (some k) j = hbF (up F 5 k (nI l)) n j := by
  by_cases hj : j < 8
  · rw [hbF_at hj, up_r]
    by_cases e : j = l
    · subst e
      rw [va_up_self, lk_take hkn hf]
    · rw [va_up_ne _ _ e, hbF_at hj, lk_take_ne hk (nI_m1 (by omega)) (fun q => e (nI_inj (by omega) (by omega) q))]
  · rw [va_up_ne _ _ (by omega)]
    unfold hbF
    rw [if_neg hj, if_neg hj]
theorem flF_up {F : Rows} {n i k : Nat} {v : Int32} (hi : i ≠ 6) : flF (up F i k v) n = flF F n := by unfold flF; rw [up_n k v (Ne.symm hi)]
theorem hbF_up {F : Rows} {n i k : Nat} {v : Int32} (hi : i ≠ 5) : hbF (up F i k v) n = hbF F n := by unfold hbF; rw [up_n k v (Ne.symm hi)]
end
section
/-! ===== coming down, counting ===== -/
theorem P_eq {D : va_G} {cl : List vw_C} {ws ws' : va_W} {H : Heap} (e : ws = ws') (h : va_P D cl ws H) : va_P D cl ws' H := e ▸ h
theorem D_eq {A : Nat → Prop} {ws ws' : va_W} (e : ws = ws') (h : va_D A ws) : va_D A ws' := e ▸ h
def bset (b : Nat → Bool) (k : Nat) : Nat → Bool := fun j => if j = k then true else b j
theorem cnt_congr {b c : Nat → Bool} : ∀ {n : Nat}, (∀ j, j < n → b j = c j) → cnt b n = cnt c n
  | 0, _ => rfl
  | n + 1, h => by rw [cnt, cnt, cnt_congr (fun j hj => h j (Nat.lt_succ_of_lt hj)), h n (Nat.lt_succ_self n)]
theorem cnt_t {b : Nat → Bool} {n : Nat} (h : b n = true) : cnt b (n + 1) = cnt b n + 1 := by rw [cnt, if_pos h]
theorem cnt_f {b : Nat → Bool} {n : Nat} (h : ¬ b n = true) : cnt b (n + 1) = cnt b n := by rw [cnt, if_neg h]; rfl
theorem cnt_le (b : Nat → Bool) : ∀ n, cnt b n ≤ n
  | 0 => Nat.le_refl _
  | n + 1 => by have := cnt_le b n; rw [cnt]; split <;> omega
theorem cnt_set {b : Nat → Bool} {k : Nat} (hb : b k = false) : ∀ {n : Nat}, k < n → cnt (bset b k) n = cnt b n + 1
  | 0, h => absurd h (Nat.not_lt_zero k)
  | n + 1, h => by
    rcases Nat.lt_or_ge k n with q | q
    · rw [cnt, cnt, cnt_set hb q]
      have e : bset b k n = b n := if_neg (by omega)
      rw [e]
      omega
    · have e : k = n := by omega
      subst e
      have e1 : cnt (bset b k) k = cnt b k := cnt_congr (fun j hj => if_neg (by omega))
      have e2 : bset b k k = true := if_pos rfl
      rw [cnt, cnt, e1, e2, hb]
      rfl
/-- those below m that count are those below n -/
theorem cnt_cut {b : Nat → Bool} {n m : Nat} (h : n ≤ m) : cnt (fun j => decide (j < n) && b j) m = cnt b n := by
  induction m with
  | zero => have e : n = 0 := by omega
            subst e; rfl
  | succ m ih =>
    by_cases q : n ≤ m
    · rw [cnt_f (by simp; intro h2; omega), ih q]
    · have e : n = m + 1 := by omega
      subst e
      exact cnt_congr (fun j hj => by simp [hj])
theorem mvd_n {F : Rows} {n : Nat} {b : Nat → Bool} {i : Nat} (h3 : i ≠ 3) (h6 : i ≠ 6) (h9 : i ≠ 9) : mvd F n b i = F i := by
  unfold mvd; rw [ro_n _ h9, ro_n _ h6, ro_n _ h3]
theorem mvd_pl (F : Rows) (n : Nat) (b : Nat → Bool) (k : Nat) (sp : Int32) : pl (mvd F n b) k sp = pl F k sp := rfl
theorem mvd_sp (F : Rows) (n : Nat) (b : Nat → Bool) : mvd F n b 9 0 = F 9 0 := rfl
theorem mvd_6 (F : Rows) (n : Nat) (b : Nat → Bool) (j : Nat) : mvd F n b 6 j = if b j then -1 else F 6 j := rfl
theorem mvd_3 (F : Rows) (n : Nat) (b : Nat → Bool) (j : Nat) : mvd F n b 3 j = if b j then bi (6000 < pl F j (F 9 0)) else F 3 j := rfl
theorem mvd_none {F : Rows} {n : Nat} {b : Nat → Bool} (h : ∀ j, b j = false) : mvd F n b = F := by
  have hb : b = fun _ => false := funext h
  subst hb
  have hc : cnt (fun _ => false) n = 0 := by
    induction n with
    | zero => rfl
    | succ n ih => rw [cnt_f (by decide), ih]
  funext i
  by_cases h9 : i = 9
  · subst h9
    show upd (F 9) 3 (F 9 3 + nI (cnt _ n)) = F 9
    rw [hc, nI_0, Int32.add_zero, upd_id]
  · by_cases h6 : i = 6
    · subst h6; rfl
    · by_cases h3 : i = 3
      · subst h3; rfl
      · exact mvd_n h3 h6 h9
theorem mvd_step {F : Rows} {n k : Nat} {b : Nat → Bool} (hk : k < n) (hb : b k = false) : dn (up (mvd F n b) 3 k (bi (6000 < pl F k (F 9 0)))) k = mvd F n (bset b k) := by
  funext i
  by_cases h9 : i = 9
  · subst h9
    show upd (upd (F 9) 3 (F 9 3 + nI (cnt b n))) 3 (upd (F 9) 3 (F 9 3 + nI (cnt b n)) 3 + 1) = upd (F 9) 3 (F 9 3 + nI (cnt (bset b k) n))
    rw [cnt_set hb hk, upd_s, ← nI_1, Int32.add_assoc]
    funext j
    simp only [upd_at]
    split <;> rfl
  · by_cases h6 : i = 6
    · subst h6
      show upd (fun j => if b j then (-1 : Int32) else F 6 j) k (-1) = fun j => if bset b k j then (-1 : Int32) else F 6 j
      funext j
      rw [upd_at]
      by_cases e : j = k
      · rw [if_pos e, bset, if_pos e]; rfl
      · rw [if_neg e, bset, if_neg e]
    · by_cases h3 : i = 3
      · subst h3
        show upd (fun j => if b j then bi (6000 < pl F j (F 9 0)) else F 3 j) k (bi (6000 < pl F k (F 9 0))) = fun j => if bset b k j then bi (6000 < pl F j (F 9 0)) else F 3 j
        funext j
        rw [upd_at]
        by_cases e : j = k
        · subst e; rw [if_pos rfl, bset, if_pos rfl, if_pos rfl]
        · rw [if_neg e, bset, if_neg e]
      · rw [mvd_n h3 h6 h9, dn, up_n _ _ h9, up_n _ _ h6, up_n _ _ h3, mvd_n h3 h6 h9]
/-- what the lines' reading needs -/
def HF (n : Nat) (F : Rows) : Prop := n ≤ 8 ∧ (∀ k, k < n → F 0 k = 0 ∨ F 0 k = 1 ∨ F 0 k = 2) ∧ (∀ k, k < n → ¬ F 6 k = -1 → held F k (F 9 0)) ∧ uq n (F 6) ∧ ∀ k, k < n → F 6 k = -1 ∨ ∃ l, l < 10 ∧ F 6 k = nI l
theorem Inv.HF {n p : Nat} {F : Rows} (h : Inv n p F) : HF n F := ⟨h.1.1, fun k hk => (h.2.1 k hk).1, fun k hk q => ((h.2.1 k hk).2.2.2.2.2.2.2 q).2.2, h.2.2.2.1.2, fun k hk => (h.2.1 k hk).2.2.2.2.2.2.1⟩
theorem dn_6 (F : Rows) (k j : Nat) : dn F k 6 j = if j = k then -1 else F 6 j := rfl
theorem HF.dn {n : Nat} {F : Rows} (h : HF n F) (k : Nat) : HF n (dn F k) := by
  obtain ⟨h1, h2, h3, h4, h5⟩ := h
  refine ⟨h1, h2, fun j hj q => ?_, fun a b ha hb e q => ?_, fun j hj => ?_⟩
  · rw [dn_6] at q
    split at q
    · exact absurd rfl q
    · exact h3 j hj q
  · rw [dn_6] at e q
    rw [dn_6] at e
    split at e
    · rename_i h6; rw [if_pos h6] at q; exact absurd rfl q
    · rename_i h6
      rw [if_neg h6] at q
      split at e
      · exact absurd e q
      · exact h4 a b ha hb e q
  · rw [dn_6]
    split
    · exact Or.inl rfl
    · exact h5 j hj
/-- the kite that comes down flies -/
theorem cK_fl {n : Nat} {F : Rows} {k : Nat} (h : cK F n = some k) : ∃ l, l < 10 ∧ lk (F 6) n (nI l) = some k := by
  have q := cK_spec F n
  rw [h] at q
  obtain ⟨l, hh, a, b, h1, h2, h3, h4, -, -, h7⟩ := q
  split at h7
  · exact ⟨l, by omega, by rw [h7]; exact h3⟩
  · exact ⟨hh, h2, by rw [h7]; exact h4⟩
/-- how many fly -/
def fc (F : Rows) (n : Nat) : Nat := cnt (fun j => decide (¬ F 6 j = -1)) n
theorem cnt_un {b : Nat → Bool} {k n : Nat} (hk : k < n) (hb : b k = true) : cnt (fun j => if j = k then false else b j) n + 1 = cnt b n := by
  have h1 := cnt_set (b := fun j => if j = k then false else b j) (k := k) (if_pos rfl) hk
  rw [← h1]
  refine cnt_congr (fun j _ => ?_)
  unfold bset
  by_cases e : j = k
  · rw [if_pos e, e, hb]
  · rw [if_neg e]; exact if_neg e
theorem fc_dn {F : Rows} {n k : Nat} (hk : k < n) (h : ¬ F 6 k = -1) : fc (dn F k) n + 1 = fc F n := by
  unfold fc
  rw [← cnt_un (b := fun j => decide (¬ F 6 j = -1)) hk (by simpa using h)]
  congr 1
  refine cnt_congr (fun j _ => ?_)
  rw [dn_6]
  by_cases e : j = k
  · rw [if_pos e, if_pos e]; decide
  · rw [if_neg e, if_neg e]
theorem stl_none {n m : Nat} {F : Rows} (h : cK F n = none) : stl n m F = F := by
  cases m with
  | zero => rfl
  | succ m => rw [stl, h]
theorem stl_some {n m k : Nat} {F : Rows} (h : cK F n = some k) : stl n (m + 1) F = stl n m (dn F k) := by rw [stl, h]
/-- with as many rounds as kites fly, no lines cross any more -/
theorem stl_end {n : Nat} : ∀ {m : Nat} {F : Rows}, HF n F → fc F n ≤ m → cK (stl n m F) n = none
  | 0, F, hF, hm => by
    cases h : cK F n with
    | none => rw [stl]; exact h
    | some k =>
      obtain ⟨l, hl, hk⟩ := cK_fl h
      obtain ⟨h1, h2⟩ := lk_some hk
      have := fc_dn (F := F) h1 (by rw [h2]; exact nI_m1 (by omega))
      omega
  | m + 1, F, hF, hm => by
    cases h : cK F n with
    | none => rw [stl_none h]; exact h
    | some k =>
      obtain ⟨l, hl, hk⟩ := cK_fl h
      obtain ⟨h1, h2⟩ := lk_some hk
      have := fc_dn (F := F) h1 (by rw [h2]; exact nI_m1 (by omega))
      rw [stl_some h]
      exact stl_end (hF.dn k) (by omega)
theorem stl_HF {n : Nat} : ∀ {m : Nat} {F : Rows}, HF n F → HF n (stl n m F)
  | 0, F, hF => hF
  | m + 1, F, hF => by
    cases h : cK F n with
    | none => rw [stl_none h]; exact hF
    | some k => rw [stl_some h]; exact stl_HF (hF.dn k)
theorem uq_lk {g : Nat → Int32} {n k : Nat} {v : Int32} (hu : uq n g) (hv : ¬ v = -1) (h : lk g n v = some k) : ∀ j, j < n → g j = v → j = k := fun j hj e => hu j k hj (lk_some h).1 (e.trans (lk_some h).2.symm) (by rw [e]; exact hv)
end
section
/-! ===== lanes that are seen to, hours ===== -/
def bU (F : Rows) (n l : Nat) : Nat → Bool := fun j => decide (j < n ∧ (F 6 j).toInt < (l : Int)) && unh F j
theorem unh_f {F : Rows} {j : Nat} (h : F 6 j = -1) : unh F j = false := by
  unfold unh; exact decide_eq_false (fun q => q.1 h)
theorem lane_toInt {x : Int32} {l : Nat} (hl : l < 10) (h : x = nI l) : x.toInt = l := by rw [h, nI_toInt (by omega)]
theorem bU_0 {F : Rows} {n : Nat} (hlr : ∀ k, k < n → F 6 k = -1 ∨ ∃ l, l < 10 ∧ F 6 k = nI l) : mvd F n (bU F n 0) = F := by
  refine mvd_none (fun j => ?_)
  unfold bU
  by_cases hj : j < n
  · rcases hlr j hj with h | ⟨l, hl, h⟩
    · rw [unh_f h, Bool.and_false]
    · have e := lane_toInt hl h
      have : decide (j < n ∧ (F 6 j).toInt < ((0 : Nat) : Int)) = false := decide_eq_false (fun q => by omega)
      rw [this, Bool.false_and]
  · have : decide (j < n ∧ (F 6 j).toInt < ((0 : Nat) : Int)) = false := decide_eq_false (fun q => hj q.1)
    rw [this, Bool.false_and]
theorem bU_10 {F : Rows} {n : Nat} (hlr : ∀ k, k < n → F 6 k = -1 ∨ ∃ l, l < 10 ∧ F 6 k = nI l) : mvd F n (bU F n 10) = uh F n := by
  have e : bU F n 10 = fun j => decide (j < n) && unh F j := by
    funext j
    unfold bU
    by_cases hj : j < n
    · rcases hlr j hj with h | ⟨l, hl, h⟩
      · rw [unh_f h, Bool.and_false, Bool.and_false]
      · have e := lane_toInt hl h
        have h1 : decide (j < n ∧ (F 6 j).toInt < ((10 : Nat) : Int)) = true := decide_eq_true ⟨hj, by omega⟩
        rw [h1, decide_eq_true hj]
    · have h1 : decide (j < n ∧ (F 6 j).toInt < ((10 : Nat) : Int)) = false := decide_eq_false (fun q => hj q.1)
      rw [h1, decide_eq_false hj]
  rw [e]
  rfl
theorem bU_lk {F : Rows} {n l : Nat} (hl : l < 10) : lk (mvd F n (bU F n l) 6) n (nI l) = lk (F 6) n (nI l) := by
  refine lk_congr (fun j hj => ?_)
  rw [mvd_6]
  by_cases hb : bU F n l j = true
  · rw [if_pos hb]
    refine ⟨fun q => absurd q.symm (nI_m1 (by omega)), fun q => ?_⟩
    unfold bU at hb
    have e := lane_toInt hl q
    simp only [Bool.and_eq_true, decide_eq_true_eq] at hb
    omega
  · rw [if_neg hb]
theorem bU_k {F : Rows} {n l k : Nat} (hl : l < 10) (h : lk (F 6) n (nI l) = some k) : bU F n l k = false := by
  unfold bU
  have e := lane_toInt hl (lk_some h).2
  have : decide (k < n ∧ (F 6 k).toInt < (l : Int)) = false := decide_eq_false (fun q => by omega)
  rw [this, Bool.false_and]
theorem bU_keep {F : Rows} {n l : Nat} (hl : l < 10) (hlr : ∀ k, k < n → F 6 k = -1 ∨ ∃ l, l < 10 ∧ F 6 k = nI l) (hu : uq n (F 6)) (h : ∀ k, lk (F 6) n (nI l) = some k → held F k (F 9 0)) : bU F n (l + 1) = bU F n l := by
  funext j
  unfold bU
  by_cases hj : j < n
  · rcases hlr j hj with q | ⟨l2, hl2, q⟩
    · rw [unh_f q, Bool.and_false, Bool.and_false]
    · have e := lane_toInt hl2 q
      by_cases e2 : l2 = l
      · subst e2
        have hk : lk (F 6) n (nI l2) = some j := lk_uniq hj q (fun i hi hq => hu i j hi hj (hq.trans q.symm) (by rw [hq]; exact nI_m1 (by omega)))
        have h1 : unh F j = false := by unfold unh; exact decide_eq_false (fun z => z.2 (h j hk))
        rw [h1, Bool.and_false, Bool.and_false]
      · congr 1
        exact decide_eq_decide.mpr ⟨fun z => ⟨z.1, by omega⟩, fun z => ⟨z.1, by omega⟩⟩
  · rw [decide_eq_false (fun q => hj q.1), decide_eq_false (fun q => hj q.1)]
theorem bU_add {F : Rows} {n l k : Nat} (hl : l < 10) (hlr : ∀ k, k < n → F 6 k = -1 ∨ ∃ l, l < 10 ∧ F 6 k = nI l) (hu : uq n (F 6)) (hk : lk (F 6) n (nI l) = some k) (h : ¬ held F k (F 9 0)) : bset (bU F n l) k = bU F n (l + 1) := by
  obtain ⟨hkn, hk6⟩ := lk_some hk
  have ek := lane_toInt hl hk6
  funext j
  unfold bset
  by_cases e : j = k
  · subst e
    rw [if_pos rfl]
    unfold bU
    have h1 : unh F j = true := by unfold unh; exact decide_eq_true ⟨by rw [hk6]; exact nI_m1 (by omega), h⟩
    rw [h1, decide_eq_true ⟨hkn, by omega⟩]; rfl
  · rw [if_neg e]
    unfold bU
    by_cases hj : j < n
    · rcases hlr j hj with q | ⟨l2, hl2, q⟩
      · rw [unh_f q, Bool.and_false, Bool.and_false]
      · have e1 := lane_toInt hl2 q
        have e2 : l2 ≠ l := fun z => e (uq_lk hu (nI_m1 (by omega)) hk j hj (by rw [q, z]))
        congr 1
        exact decide_eq_decide.mpr ⟨fun z => ⟨z.1, by omega⟩, fun z => ⟨z.1, by omega⟩⟩
    · rw [decide_eq_false (fun q => hj q.1), decide_eq_false (fun q => hj q.1)]
theorem mvd_uq {F : Rows} {n : Nat} {b : Nat → Bool} (hu : uq n (F 6)) : uq n (mvd F n b 6) := by
  intro i j hi hj e q
  rw [mvd_6] at e q
  rw [mvd_6] at e
  split at e
  · rename_i h; rw [if_pos h] at q; exact absurd rfl q
  · rename_i h
    rw [if_neg h] at q
    split at e
    · exact absurd e q
    · exact hu i j hi hj e q
/-- behind the first look all that fly hold -/
theorem uh_HF {F : Rows} {n : Nat} (hn8 : n ≤ 8) (hkd : ∀ k, k < n → F 0 k = 0 ∨ F 0 k = 1 ∨ F 0 k = 2) (hu : uq n (F 6)) (hlr : ∀ k, k < n → F 6 k = -1 ∨ ∃ l, l < 10 ∧ F 6 k = nI l) : HF n (uh F n) := by
  refine ⟨hn8, hkd, fun k hk q => ?_, mvd_uq hu, fun k hk => ?_⟩
  · change ¬ (if (decide (k < n) && unh F k) then (-1 : Int32) else F 6 k) = -1 at q
    show held F k (F 9 0)
    split at q
    · exact absurd rfl q
    · rename_i h
      refine Decidable.byContradiction (fun z => h ?_)
      rw [decide_eq_true hk]
      unfold unh
      rw [decide_eq_true ⟨q, z⟩]; rfl
  · show (if (decide (k < n) && unh F k) then (-1 : Int32) else F 6 k) = -1 ∨ _
    split
    · exact Or.inl rfl
    · rename_i h
      rcases hlr k hk with q | ⟨l, hl, q⟩
      · exact Or.inl q
      · refine Or.inr ⟨l, hl, ?_⟩
        show (if (decide (k < n) && unh F k) then (-1 : Int32) else F 6 k) = nI l
        rw [if_neg h]; exact q
/-- an hour -/
def w1 (F : Rows) (j : Nat) : Int32 := if ¬ F 9 2 = 0 ∧ ¬ F 6 j = -1 then 6 else if 0 < F 4 j then F 4 j - 1 else F 4 j
def sh (F : Rows) (n i : Nat) : Rows := ro F 4 (fun j => if j < i ∧ j < n then w1 F j else F 4 j)
def hr1 (F : Rows) (n : Nat) : Rows := ro F 4 (fun j => if j < n then w1 F j else F 4 j)
theorem ro_id (F : Rows) (i : Nat) : ro F i (F i) = F := by
  funext j
  by_cases h : j = i
  · subst h; rw [ro_s]
  · rw [ro_n _ h]
theorem sh_0 (F : Rows) (n : Nat) : sh F n 0 = F := by
  unfold sh
  have e : (fun j => if j < 0 ∧ j < n then w1 F j else F 4 j) = F 4 := by
    funext j; rw [if_neg (fun q => absurd q.1 (Nat.not_lt_zero j))]
  rw [e, ro_id]
theorem sh_8 {F : Rows} {n : Nat} (hn8 : n ≤ 8) : sh F n 8 = hr1 F n := by
  unfold sh hr1
  congr 1
  funext j
  by_cases h : j < n
  · rw [if_pos h, if_pos ⟨by omega, h⟩]
  · rw [if_neg h, if_neg (fun q => h q.2)]
theorem sh_past {F : Rows} {n i : Nat} (h : n ≤ i) : sh F n (i + 1) = sh F n i := by
  unfold sh
  congr 1
  funext j
  by_cases q : j < n
  · rw [if_pos ⟨by omega, q⟩, if_pos ⟨by omega, q⟩]
  · rw [if_neg (fun z => q z.2), if_neg (fun z => q z.2)]
theorem sh_step {F : Rows} {n i : Nat} (h : i < n) : up (sh F n i) 4 i (if ¬ F 9 2 = 0 ∧ ¬ (sh F n i) 6 i = -1 then 6 else if 0 < (sh F n i) 4 i then (sh F n i) 4 i - 1 else (sh F n i) 4 i) = sh F n (i + 1) := by
  have e4 : (sh F n i) 4 i = F 4 i := by
    show (if i < i ∧ i < n then w1 F i else F 4 i) = F 4 i
    rw [if_neg (fun q => absurd q.1 (Nat.lt_irrefl i))]
  rw [e4]
  show up (sh F n i) 4 i (w1 F i) = _
  funext a
  by_cases ha : a = 4
  · subst ha
    rw [up_r]
    show upd (fun j => if j < i ∧ j < n then w1 F j else F 4 j) i (w1 F i) = fun j => if j < i + 1 ∧ j < n then w1 F j else F 4 j
    funext j
    rw [upd_at]
    by_cases e : j = i
    · subst e; rw [if_pos rfl, if_pos ⟨by omega, h⟩]
    · rw [if_neg e]
      by_cases q : j < i ∧ j < n
      · rw [if_pos q, if_pos ⟨by omega, q.2⟩]
      · rw [if_neg q, if_neg (fun z => q ⟨by omega, z.2⟩)]
  · rw [up_n _ _ ha]
    unfold sh
    rw [ro_n _ ha, ro_n _ ha]
end
section
theorem bw_1 {v lo hi : Int32} (h : v < lo) : (0 : Int32) = bi (lo ≤ v ∧ v ≤ hi) := (bi_f (fun q => by rw [i32_lt] at h; rw [i32_le] at q; omega)).symm
theorem bw_2 {v lo hi : Int32} (h : hi < v) : (0 : Int32) = bi (lo ≤ v ∧ v ≤ hi) := (bi_f (fun q => by rw [i32_lt] at h; rw [i32_le, i32_le] at q; omega)).symm
theorem bw_3 {v lo hi : Int32} (h1 : ¬ v < lo) (h2 : ¬ hi < v) : (1 : Int32) = bi (lo ≤ v ∧ v ≤ hi) := (bi_t (by rw [i32_lt] at h1 h2; rw [i32_le, i32_le]; omega)).symm

set_option maxHeartbeats 4000000 in
set_option maxRecDepth 100000 in
/-- isWithin -/
theorem c_X2_isWithin (l : Launch) (v lo hi : Int32) : Met l yX2_isWithin wsX2_isWithin ({ frames := 0, cells := 0, slots := 0, locals := 0 }) (va_Pc [.int v, .int lo, .int hi] (fun _ => True)) (vp_Si (fun r9 => r9 = bi (lo ≤ v ∧ v ≤ hi))) 0 0 (fun _ => False) := by
  refine Met.ofW (cc := cX2_isWithin) (maxL := 3) (ret := (some .boolean)) (by decide) rfl ?_
  intro p e s m args below meth c s₁ B hml hv
  obtain ⟨rfl, -⟩ := hv
  have hx := B.exec
  have hb := B.bytes
  have hr := B.returns
  have hts := atoms_spec (ws := wsX2_isWithin) B.pre
  have hown : s.vm.findClass RX2 = some m.cls := findClass_of_methodNamed B.named
  have hlocks := B.notSynchronized
  have hl := lv_entry ([.int v, .int lo, .int hi]) (n := 3) (Nat.le_of_ble_eq_true rfl)
  rw [lg_entry_eq]
  generalize (lg_sl ([.int v, .int lo, .int hi]) ++ List.replicate (3 - (lg_sl ([.int v, .int lo, .int hi])).length) Slot.unset).toArray = ls at hl ⊢
  have hl : lv_has ls 3 [(0, .int v), (1, .int lo), (2, .int hi)] := hl
  refine lv_iload_n hx hb dX2_isWithin_0 rfl (lv_at hl 0 rfl) ?_
  refine lv_iload_n hx hb dX2_isWithin_1 rfl (lv_at hl 1 rfl) ?_
  refine lv_icmp_lt (tgt := 14) hx hb dX2_isWithin_2 (by decide) (fun c_2 => ?_) (fun c_2 => ?_)
  · skip
    refine lv_iconst (v := 0) hx hb dX2_isWithin_14 (by decide) ?_
    exact W.zret (v := 0) hx hb hr rfl (fun t ht _ => ⟨_, rfl, bw_1 c_2, ht⟩) (fun q hq => absurd hq List.not_mem_nil) dX2_isWithin_15
  · skip
    refine lv_iload_n hx hb dX2_isWithin_5 rfl (lv_at hl 0 rfl) ?_
    refine lv_iload_n hx hb dX2_isWithin_6 rfl (lv_at hl 2 rfl) ?_
    refine lv_icmp_gt (tgt := 14) hx hb dX2_isWithin_7 (by decide) (fun c_7 => ?_) (fun c_7 => ?_)
    · skip
      refine lv_iconst (v := 0) hx hb dX2_isWithin_14 (by decide) ?_
      exact W.zret (v := 0) hx hb hr rfl (fun t ht _ => ⟨_, rfl, bw_2 c_7, ht⟩) (fun q hq => absurd hq List.not_mem_nil) dX2_isWithin_15
    · skip
      refine lv_iconst (v := 1) hx hb dX2_isWithin_10 (by decide) ?_
      refine lv_goto (tgt := 15) hx hb dX2_isWithin_11 (by decide) ?_
      exact W.zret (v := 1) hx hb hr rfl (fun t ht _ => ⟨_, rfl, bw_3 c_2 c_7, ht⟩) (fun q hq => absurd hq List.not_mem_nil) dX2_isWithin_15

set_option maxHeartbeats 4000000 in
set_option maxRecDepth 100000 in
theorem c_X2_isSpeed (l : Launch) (v : Int32) : Met l yX2_isSpeed wsX2_isSpeed ({ frames := 1, cells := 0, slots := 0, locals := 22 }) (va_Pc [.int v] (fun _ => True)) (vp_Si (fun r9 => r9 = bi (0 ≤ v ∧ v ≤ 30))) 0 0 (fun _ => False) := by
  refine Met.ofW (cc := cX2_isSpeed) (maxL := 1) (ret := (some .boolean)) (by decide) rfl ?_
  intro p e s m args below meth c s₁ B hml hv
  obtain ⟨rfl, -⟩ := hv
  have hx := B.exec
  have hb := B.bytes
  have hr := B.returns
  have hts := atoms_spec (ws := wsX2_isSpeed) B.pre
  have hown : s.vm.findClass RX2 = some m.cls := findClass_of_methodNamed B.named
  have hlocks := B.notSynchronized
  have hl := lv_entry ([.int v]) (n := 1) (Nat.le_of_ble_eq_true rfl)
  rw [lg_entry_eq]
  generalize (lg_sl ([.int v]) ++ List.replicate (1 - (lg_sl ([.int v])).length) Slot.unset).toArray = ls at hl ⊢
  have hl : lv_has ls 1 [(0, .int v)] := hl
  refine lv_iload_n hx hb dX2_isSpeed_0 rfl (lv_at hl 0 rfl) ?_
  refine lv_iconst (v := 0) hx hb dX2_isSpeed_1 (by decide) ?_
  refine lv_bipush (v := 30) hx hb dX2_isSpeed_2 (by decide) ?_
  refine vp_callSi (va_Run.run (va_runS (As := [.int v, .int 0, .int 30]) (rest := []) ⟨hx, hb, hml, hown, hts⟩ (c_X2_isWithin l v 0 30) (va_cwS 3 hts gX2_isSpeed_X2_isWithin rfl rfl rfl (by decide +kernel) ⟨Nat.le_of_ble_eq_true rfl, Nat.le_of_ble_eq_true rfl⟩) ⟨fun a U g mk q => q, fun U hU hW => ⟨rfl, trivial⟩⟩ rfl rfl hl.1 rfl (lv_room (Nat.le_of_ble_eq_true rfl)) dX2_isSpeed_4 ⟨Nat.le_of_ble_eq_true rfl, Nat.le_of_ble_eq_true rfl⟩)) (fun r hr => ?_)
  subst hr
  exact W.zret (v := bi (0 ≤ v ∧ v ≤ 30)) hx hb hr (nar_01 (bi_01 _)) (fun t ht _ => ⟨_, rfl, rfl, ht⟩) (fun q hq => absurd hq List.not_mem_nil) dX2_isSpeed_7

set_option maxHeartbeats 4000000 in
set_option maxRecDepth 100000 in
theorem c_X2_isLane (l : Launch) (v : Int32) : Met l yX2_isLane wsX2_isLane ({ frames := 1, cells := 0, slots := 0, locals := 22 }) (va_Pc [.int v] (fun _ => True)) (vp_Si (fun r9 => r9 = bi (inR 10 v))) 0 0 (fun _ => False) := by
  refine Met.ofW (cc := cX2_isLane) (maxL := 1) (ret := (some .boolean)) (by decide) rfl ?_
  intro p e s m args below meth c s₁ B hml hv
  obtain ⟨rfl, -⟩ := hv
  have hx := B.exec
  have hb := B.bytes
  have hr := B.returns
  have hts := atoms_spec (ws := wsX2_isLane) B.pre
  have hown : s.vm.findClass RX2 = some m.cls := findClass_of_methodNamed B.named
  have hlocks := B.notSynchronized
  have hl := lv_entry ([.int v]) (n := 1) (Nat.le_of_ble_eq_true rfl)
  rw [lg_entry_eq]
  generalize (lg_sl ([.int v]) ++ List.replicate (1 - (lg_sl ([.int v])).length) Slot.unset).toArray = ls at hl ⊢
  have hl : lv_has ls 1 [(0, .int v)] := hl
  refine lv_iload_n hx hb dX2_isLane_0 rfl (lv_at hl 0 rfl) ?_
  refine lv_iconst (v := 0) hx hb dX2_isLane_1 (by decide) ?_
  refine lv_bipush (v := 9) hx hb dX2_isLane_2 (by decide) ?_
  refine vp_callSi (va_Run.run (va_runS (As := [.int v, .int 0, .int 9]) (rest := []) ⟨hx, hb, hml, hown, hts⟩ (c_X2_isWithin l v 0 9) (va_cwS 3 hts gX2_isLane_X2_isWithin rfl rfl rfl (by decide +kernel) ⟨Nat.le_of_ble_eq_true rfl, Nat.le_of_ble_eq_true rfl⟩) ⟨fun a U g mk q => q, fun U hU hW => ⟨rfl, trivial⟩⟩ rfl rfl hl.1 rfl (lv_room (Nat.le_of_ble_eq_true rfl)) dX2_isLane_4 ⟨Nat.le_of_ble_eq_true rfl, Nat.le_of_ble_eq_true rfl⟩)) (fun r hr => ?_)
  subst hr
  exact W.zret (v := bi (0 ≤ v ∧ v ≤ 9)) hx hb hr (nar_01 (bi_01 _)) (fun t ht _ => ⟨_, rfl, bi_iff (inR_lit (by decide) v), ht⟩) (fun q hq => absurd hq List.not_mem_nil) dX2_isLane_7

set_option maxHeartbeats 4000000 in
set_option maxRecDepth 100000 in
theorem c_X1_isFlying (l : Launch) (dC : Nat → ClassId) (dI : Nat → Nat → Nat) (q k : Nat) (F : Rows) : Met l yX1_isFlying wsX1_isFlying ({ frames := 0, cells := 0, slots := 0, locals := 0 }) (va_Pc [.ref q] (PRo dC dI [] [(q, kE F k)])) (vp_Si (fun r9 => r9 = bi (¬ F 6 k = -1))) 0 0 (fun _ => False) := by
  refine Met.ofW (cc := cX1_isFlying) (maxL := 1) (ret := (some .boolean)) (by decide) rfl ?_
  intro p e s m args below meth c s₁ B hml hv
  obtain ⟨rfl, hP, hK, hE⟩ := hv
  have hx := B.exec
  have hb := B.bytes
  have hr := B.returns
  have hts := atoms_spec (ws := wsX1_isFlying) B.pre
  have hown : s.vm.findClass RX1 = some m.cls := findClass_of_methodNamed B.named
  have hlocks := B.notSynchronized
  have hP : va_P (dC, dI) vwCl [(q, kE F k)] s.heap := hP
  have hi1 : ∀ w ∈ u_ws RX1 TX1 9, w ∈ wsX1_isFlying := by decide +kernel
  have lk27 := hts (.fieldLink RX1 27 "Windlane$Kite" "lane" "I") (by decide +kernel)
  have hl := lv_entry ([.ref q]) (n := 1) (Nat.le_of_ble_eq_true rfl)
  rw [lg_entry_eq]
  generalize (lg_sl ([.ref q]) ++ List.replicate (1 - (lg_sl ([.ref q])).length) Slot.unset).toArray = ls at hl ⊢
  have hl : lv_has ls 1 [(0, .ref q)] := hl
  refine lv_aload_n hx hb dX1_isFlying_0 rfl (lv_at hl 0 rfl) ?_
  refine va_get (D := (dC, dI)) (ci := 1) (v := .int (F 6 k)) (C := RX1) (T := TX1) (N := 9) hx hb hts hi1 hown hK hP 0 rfl rfl 7 (by decide) lk27 (fun _ h9 => h9) rfl dX1_isFlying_1 ?_
  refine lv_iconst (v := (-1)) hx hb dX1_isFlying_4 (by decide) ?_
  refine lv_icmp_eq (tgt := 12) hx hb dX1_isFlying_5 (by decide) (fun c_5 => ?_) (fun c_5 => ?_)
  · skip
    refine lv_iconst (v := 0) hx hb dX1_isFlying_12 (by decide) ?_
    exact W.zret (v := 0) hx hb hr rfl (fun t ht _ => ⟨_, rfl, (bi_f (fun h => h c_5)).symm, ht⟩) (fun q hq => absurd hq List.not_mem_nil) dX1_isFlying_13
  · skip
    refine lv_iconst (v := 1) hx hb dX1_isFlying_8 (by decide) ?_
    refine lv_goto (tgt := 13) hx hb dX1_isFlying_9 (by decide) ?_
    exact W.zret (v := 1) hx hb hr rfl (fun t ht _ => ⟨_, rfl, (bi_t c_5).symm, ht⟩) (fun q hq => absurd hq List.not_mem_nil) dX1_isFlying_13

set_option maxHeartbeats 4000000 in
set_option maxRecDepth 100000 in
theorem c_X1_isLendable (l : Launch) (dC : Nat → ClassId) (dI : Nat → Nat → Nat) (q k : Nat) (F : Rows) : Met l yX1_isLendable wsX1_isLendable ({ frames := 0, cells := 0, slots := 0, locals := 0 }) (va_Pc [.ref q] (PRo dC dI [] [(q, kE F k)])) (vp_Si (fun r9 => r9 = bi (F 5 k = -1 ∧ F 3 k = 0 ∧ F 4 k = 0))) 0 0 (fun _ => False) := by
  refine Met.ofW (cc := cX1_isLendable) (maxL := 1) (ret := (some .boolean)) (by decide) rfl ?_
  intro p e s m args below meth c s₁ B hml hv
  obtain ⟨rfl, hP, hK, hE⟩ := hv
  have hx := B.exec
  have hb := B.bytes
  have hr := B.returns
  have hts := atoms_spec (ws := wsX1_isLendable) B.pre
  have hown : s.vm.findClass RX1 = some m.cls := findClass_of_methodNamed B.named
  have hlocks := B.notSynchronized
  have hP : va_P (dC, dI) vwCl [(q, kE F k)] s.heap := hP
  have hi1 : ∀ w ∈ u_ws RX1 TX1 9, w ∈ wsX1_isLendable := by decide +kernel
  have lk24 := hts (.fieldLink RX1 24 "Windlane$Kite" "borrower" "I") (by decide +kernel)
  have lk30 := hts (.fieldLink RX1 30 "Windlane$Kite" "isTorn" "Z") (by decide +kernel)
  have lk34 := hts (.fieldLink RX1 34 "Windlane$Kite" "wetHours" "I") (by decide +kernel)
  have hl := lv_entry ([.ref q]) (n := 1) (Nat.le_of_ble_eq_true rfl)
  rw [lg_entry_eq]
  generalize (lg_sl ([.ref q]) ++ List.replicate (1 - (lg_sl ([.ref q])).length) Slot.unset).toArray = ls at hl ⊢
  have hl : lv_has ls 1 [(0, .ref q)] := hl
  refine lv_aload_n hx hb dX1_isLendable_0 rfl (lv_at hl 0 rfl) ?_
  refine va_get (D := (dC, dI)) (ci := 1) (v := .int (F 5 k)) (C := RX1) (T := TX1) (N := 9) hx hb hts hi1 hown hK hP 0 rfl rfl 6 (by decide) lk24 (fun _ h9 => h9) rfl dX1_isLendable_1 ?_
  refine lv_iconst (v := (-1)) hx hb dX1_isLendable_4 (by decide) ?_
  refine lv_icmp_ne (tgt := 26) hx hb dX1_isLendable_5 (by decide) (fun c_5 => ?_) (fun c_5 => ?_)
  · skip
    refine lv_iconst (v := 0) hx hb dX1_isLendable_26 (by decide) ?_
    exact W.zret (v := 0) hx hb hr rfl (fun t ht _ => ⟨_, rfl, (bi_f (fun h => c_5 h.1)).symm, ht⟩) (fun q hq => absurd hq List.not_mem_nil) dX1_isLendable_27
  · skip
    refine lv_aload_n hx hb dX1_isLendable_8 rfl (lv_at hl 0 rfl) ?_
    refine va_get (D := (dC, dI)) (ci := 1) (v := .int (F 3 k)) (C := RX1) (T := TX1) (N := 9) hx hb hts hi1 hown hK hP 0 rfl rfl 4 (by decide) lk30 (fun _ h9 => h9) rfl dX1_isLendable_9 ?_
    refine lv_if_ne (tgt := 26) hx hb dX1_isLendable_12 (by decide) (fun c_12 => ?_) (fun c_12 => ?_)
    · skip
      refine lv_iconst (v := 0) hx hb dX1_isLendable_26 (by decide) ?_
      exact W.zret (v := 0) hx hb hr rfl (fun t ht _ => ⟨_, rfl, (bi_f (fun h => c_12 h.2.1)).symm, ht⟩) (fun q hq => absurd hq List.not_mem_nil) dX1_isLendable_27
    · skip
      refine lv_aload_n hx hb dX1_isLendable_15 rfl (lv_at hl 0 rfl) ?_
      refine va_get (D := (dC, dI)) (ci := 1) (v := .int (F 4 k)) (C := RX1) (T := TX1) (N := 9) hx hb hts hi1 hown hK hP 0 rfl rfl 5 (by decide) lk34 (fun _ h9 => h9) rfl dX1_isLendable_16 ?_
      refine lv_if_ne (tgt := 26) hx hb dX1_isLendable_19 (by decide) (fun c_19 => ?_) (fun c_19 => ?_)
      · skip
        refine lv_iconst (v := 0) hx hb dX1_isLendable_26 (by decide) ?_
        exact W.zret (v := 0) hx hb hr rfl (fun t ht _ => ⟨_, rfl, (bi_f (fun h => c_19 h.2.2)).symm, ht⟩) (fun q hq => absurd hq List.not_mem_nil) dX1_isLendable_27
      · skip
        refine lv_iconst (v := 1) hx hb dX1_isLendable_22 (by decide) ?_
        refine lv_goto (tgt := 27) hx hb dX1_isLendable_23 (by decide) ?_
        exact W.zret (v := 1) hx hb hr rfl (fun t ht _ => ⟨_, rfl, (bi_t ⟨c_5, c_12, c_19⟩).symm, ht⟩) (fun q hq => absurd hq List.not_mem_nil) dX1_isLendable_27

set_option maxHeartbeats 4000000 in
set_option maxRecDepth 100000 in
theorem c_X1_liftIn (l : Launch) (dC : Nat → ClassId) (dI : Nat → Nat → Nat) (q k : Nat) (F : Rows) (sp : Int32) (hk : F 0 k = 0 ∨ F 0 k = 1 ∨ F 0 k = 2) : Met l yX1_liftIn wsX1_liftIn ({ frames := 0, cells := 0, slots := 0, locals := 0 }) (va_Pc [.ref q, .int sp] (PRo dC dI [] [(q, kE F k)])) (vp_Si (fun r9 => r9 = lift (F 0 k) (F 1 k) sp)) 0 0 (fun _ => False) := by
  refine Met.ofW (cc := cX1_liftIn) (maxL := 2) (ret := (some .int)) (by decide) rfl ?_
  intro p e s m args below meth c s₁ B hml hv
  obtain ⟨rfl, hP, hK, hE⟩ := hv
  have hx := B.exec
  have hb := B.bytes
  have hr := B.returns
  have hts := atoms_spec (ws := wsX1_liftIn) B.pre
  have hown : s.vm.findClass RX1 = some m.cls := findClass_of_methodNamed B.named
  have hlocks := B.notSynchronized
  have hP : va_P (dC, dI) vwCl [(q, kE F k)] s.heap := hP
  have hi1 : ∀ w ∈ u_ws RX1 TX1 9, w ∈ wsX1_liftIn := by decide +kernel
  have lk15 := hts (.fieldLink RX1 15 "Windlane$Kite" "kind" "I") (by decide +kernel)
  have lk18 := hts (.fieldLink RX1 18 "Windlane$Kite" "area" "I") (by decide +kernel)
  have hl := lv_entry ([.ref q, .int sp]) (n := 2) (Nat.le_of_ble_eq_true rfl)
  rw [lg_entry_eq]
  generalize (lg_sl ([.ref q, .int sp]) ++ List.replicate (2 - (lg_sl ([.ref q, .int sp])).length) Slot.unset).toArray = ls at hl ⊢
  have hl : lv_has ls 2 [(0, .ref q), (1, .int sp)] := hl
  rcases hk with hk | hk | hk
  · skip
    refine lv_aload_n hx hb dX1_liftIn_0 rfl (lv_at hl 0 rfl) ?_
    refine va_get (D := (dC, dI)) (ci := 1) (v := .int (F 0 k)) (C := RX1) (T := TX1) (N := 9) hx hb hts hi1 hown hK hP 0 rfl rfl 1 (by decide) lk15 (fun _ h9 => h9) rfl dX1_liftIn_1 ?_
    refine W_top (y := .int 0) (congrArg Value.int hk) ?_
    refine lv_lookup (off := 28) (tgt := 32) hx hb dX1_liftIn_4 (by decide) (by decide +kernel) (by decide) ?_
    refine lv_iconst (v := 5) hx hb dX1_liftIn_32 (by decide) ?_
    refine lv_aload_n hx hb dX1_liftIn_33 rfl (lv_at hl 0 rfl) ?_
    refine va_get (D := (dC, dI)) (ci := 1) (v := .int (F 1 k)) (C := RX1) (T := TX1) (N := 9) hx hb hts hi1 hown hK hP 0 rfl rfl 2 (by decide) lk18 (fun _ h9 => h9) rfl dX1_liftIn_34 ?_
    refine lv_imul hx hb dX1_liftIn_37 ?_
    refine lv_iload_n hx hb dX1_liftIn_38 rfl (lv_at hl 1 rfl) ?_
    refine lv_imul hx hb dX1_liftIn_39 ?_
    refine lv_iload_n hx hb dX1_liftIn_40 rfl (lv_at hl 1 rfl) ?_
    refine lv_imul hx hb dX1_liftIn_41 ?_
    exact W.iret (v := ((5 * (F 1 k)) * sp) * sp) hx hb hr (fun t ht _ => ⟨_, rfl, by rw [lift, hk]; rfl, ht⟩) (fun q hq => absurd hq List.not_mem_nil) dX1_liftIn_42
  · skip
    refine lv_aload_n hx hb dX1_liftIn_0 rfl (lv_at hl 0 rfl) ?_
    refine va_get (D := (dC, dI)) (ci := 1) (v := .int (F 0 k)) (C := RX1) (T := TX1) (N := 9) hx hb hts hi1 hown hK hP 0 rfl rfl 1 (by decide) lk15 (fun _ h9 => h9) rfl dX1_liftIn_1 ?_
    refine W_top (y := .int 1) (congrArg Value.int hk) ?_
    refine lv_lookup (off := 39) (tgt := 43) hx hb dX1_liftIn_4 (by decide) (by decide +kernel) (by decide) ?_
    refine lv_bipush (v := 60) hx hb dX1_liftIn_43 (by decide) ?_
    refine lv_aload_n hx hb dX1_liftIn_45 rfl (lv_at hl 0 rfl) ?_
    refine va_get (D := (dC, dI)) (ci := 1) (v := .int (F 1 k)) (C := RX1) (T := TX1) (N := 9) hx hb hts hi1 hown hK hP 0 rfl rfl 2 (by decide) lk18 (fun _ h9 => h9) rfl dX1_liftIn_46 ?_
    refine lv_imul hx hb dX1_liftIn_49 ?_
    refine lv_iload_n hx hb dX1_liftIn_50 rfl (lv_at hl 1 rfl) ?_
    refine lv_imul hx hb dX1_liftIn_51 ?_
    exact W.iret (v := (60 * (F 1 k)) * sp) hx hb hr (fun t ht _ => ⟨_, rfl, by rw [lift, hk]; rfl, ht⟩) (fun q hq => absurd hq List.not_mem_nil) dX1_liftIn_52
  · skip
    refine lv_aload_n hx hb dX1_liftIn_0 rfl (lv_at hl 0 rfl) ?_
    refine va_get (D := (dC, dI)) (ci := 1) (v := .int (F 0 k)) (C := RX1) (T := TX1) (N := 9) hx hb hts hi1 hown hK hP 0 rfl rfl 1 (by decide) lk15 (fun _ h9 => h9) rfl dX1_liftIn_1 ?_
    refine W_top (y := .int 2) (congrArg Value.int hk) ?_
    refine lv_lookup (off := 49) (tgt := 53) hx hb dX1_liftIn_4 (by decide) (by decide +kernel) (by decide) ?_
    refine lv_bipush (v := 80) hx hb dX1_liftIn_53 (by decide) ?_
    refine lv_aload_n hx hb dX1_liftIn_55 rfl (lv_at hl 0 rfl) ?_
    refine va_get (D := (dC, dI)) (ci := 1) (v := .int (F 1 k)) (C := RX1) (T := TX1) (N := 9) hx hb hts hi1 hown hK hP 0 rfl rfl 2 (by decide) lk18 (fun _ h9 => h9) rfl dX1_liftIn_56 ?_
    refine lv_imul hx hb dX1_liftIn_59 ?_
    refine lv_iload_n hx hb dX1_liftIn_60 rfl (lv_at hl 1 rfl) ?_
    refine lv_bipush (v := 10) hx hb dX1_liftIn_61 (by decide) ?_
    refine lv_icmp_le (tgt := 71) hx hb dX1_liftIn_63 (by decide) (fun c_63 => ?_) (fun c_63 => ?_)
    · skip
      refine lv_iload_n hx hb dX1_liftIn_71 rfl (lv_at hl 1 rfl) ?_
      refine lv_imul hx hb dX1_liftIn_72 ?_
      exact W.iret (v := (80 * (F 1 k)) * sp) hx hb hr (fun t ht _ => ⟨_, rfl, by rw [lift, hk, if_neg (by decide), if_neg (by decide), if_pos c_63], ht⟩) (fun q hq => absurd hq List.not_mem_nil) dX1_liftIn_73
    · skip
      refine lv_bipush (v := 10) hx hb dX1_liftIn_66 (by decide) ?_
      refine lv_goto (tgt := 72) hx hb dX1_liftIn_68 (by decide) ?_
      refine lv_imul hx hb dX1_liftIn_72 ?_
      exact W.iret (v := (80 * (F 1 k)) * 10) hx hb hr (fun t ht _ => ⟨_, rfl, by rw [lift, hk, if_neg (by decide), if_neg (by decide), if_neg c_63], ht⟩) (fun q hq => absurd hq List.not_mem_nil) dX1_liftIn_73

set_option maxHeartbeats 4000000 in
set_option maxRecDepth 100000 in
theorem c_X1_pullIn (l : Launch) (dC : Nat → ClassId) (dI : Nat → Nat → Nat) (q k : Nat) (F : Rows) (sp : Int32) (hk : F 0 k = 0 ∨ F 0 k = 1 ∨ F 0 k = 2) : Met l yX1_pullIn wsX1_pullIn ({ frames := 1, cells := 0, slots := 0, locals := 21 }) (va_Pc [.ref q, .int sp] (PRo dC dI [] [(q, kE F k)])) (vp_Si (fun r9 => r9 = pl F k sp)) 0 0 (fun _ => False) := by
  refine Met.ofW (cc := cX1_pullIn) (maxL := 2) (ret := (some .int)) (by decide) rfl ?_
  intro p e s m args below meth c s₁ B hml hv
  obtain ⟨rfl, hP, hK, hE⟩ := hv
  have hx := B.exec
  have hb := B.bytes
  have hr := B.returns
  have hts := atoms_spec (ws := wsX1_pullIn) B.pre
  have hown : s.vm.findClass RX1 = some m.cls := findClass_of_methodNamed B.named
  have hlocks := B.notSynchronized
  have hP : va_P (dC, dI) vwCl [(q, kE F k)] s.heap := hP
  have hi1 : ∀ w ∈ u_ws RX1 TX1 9, w ∈ wsX1_pullIn := by decide +kernel
  have lk21 := hts (.fieldLink RX1 21 "Windlane$Kite" "weight" "I") (by decide +kernel)
  have hl := lv_entry ([.ref q, .int sp]) (n := 2) (Nat.le_of_ble_eq_true rfl)
  rw [lg_entry_eq]
  generalize (lg_sl ([.ref q, .int sp]) ++ List.replicate (2 - (lg_sl ([.ref q, .int sp])).length) Slot.unset).toArray = ls at hl ⊢
  have hl : lv_has ls 2 [(0, .ref q), (1, .int sp)] := hl
  refine lv_aload_n hx hb dX1_pullIn_0 rfl (lv_at hl 0 rfl) ?_
  refine lv_iload_n hx hb dX1_pullIn_1 rfl (lv_at hl 1 rfl) ?_
  refine vp_callSi (va_Run.run (va_runV (As := [.int sp]) (rest := []) ⟨hx, hb, hml, hown, hts⟩ (c_X1_liftIn l dC dI q k F sp hk) (cwV 1 hts gX1_pullIn_X1_liftIn rfl rfl rfl (by decide +kernel) ⟨Nat.le_of_ble_eq_true rfl, Nat.le_of_ble_eq_true rfl⟩) ⟨PRo.blind, va_recv hK hP (ci := 1) (q0 := 0) rfl rfl, PRo.pre hP hK hE⟩ rfl rfl hl.1 rfl (lv_room (Nat.le_of_ble_eq_true rfl)) dX1_pullIn_2 ⟨Nat.le_of_ble_eq_true rfl, Nat.le_of_ble_eq_true rfl⟩)) (fun r hr => ?_)
  subst hr
  refine lv_bipush (v := 100) hx hb dX1_pullIn_5 (by decide) ?_
  refine lv_aload_n hx hb dX1_pullIn_7 rfl (lv_at hl 0 rfl) ?_
  refine va_get (D := (dC, dI)) (ci := 1) (v := .int (F 2 k)) (C := RX1) (T := TX1) (N := 9) hx hb hts hi1 hown hK hP 0 rfl rfl 3 (by decide) lk21 (fun _ h9 => h9) rfl dX1_pullIn_8 ?_
  refine lv_imul hx hb dX1_pullIn_11 ?_
  refine lv_isub hx hb dX1_pullIn_12 ?_
  exact W.iret (v := (lift (F 0 k) (F 1 k) sp) - (100 * (F 2 k))) hx hb hr (fun t ht _ => ⟨_, rfl, rfl, ht⟩) (fun q hq => absurd hq List.not_mem_nil) dX1_pullIn_13

set_option maxHeartbeats 4000000 in
set_option maxRecDepth 100000 in
theorem c_X1_holdsIn (l : Launch) (dC : Nat → ClassId) (dI : Nat → Nat → Nat) (q k : Nat) (F : Rows) (sp : Int32) (hk : F 0 k = 0 ∨ F 0 k = 1 ∨ F 0 k = 2) : Met l yX1_holdsIn wsX1_holdsIn ({ frames := 2, cells := 0, slots := 0, locals := 42 }) (va_Pc [.ref q, .int sp] (PRo dC dI [] [(q, kE F k)])) (vp_Si (fun r9 => r9 = bi (held F k sp))) 0 0 (fun _ => False) := by
  refine Met.ofW (cc := cX1_holdsIn) (maxL := 2) (ret := (some .boolean)) (by decide) rfl ?_
  intro p e s m args below meth c s₁ B hml hv
  obtain ⟨rfl, hP, hK, hE⟩ := hv
  have hx := B.exec
  have hb := B.bytes
  have hr := B.returns
  have hts := atoms_spec (ws := wsX1_holdsIn) B.pre
  have hown : s.vm.findClass RX1 = some m.cls := findClass_of_methodNamed B.named
  have hlocks := B.notSynchronized
  have hP : va_P (dC, dI) vwCl [(q, kE F k)] s.heap := hP
  have hl := lv_entry ([.ref q, .int sp]) (n := 2) (Nat.le_of_ble_eq_true rfl)
  rw [lg_entry_eq]
  generalize (lg_sl ([.ref q, .int sp]) ++ List.replicate (2 - (lg_sl ([.ref q, .int sp])).length) Slot.unset).toArray = ls at hl ⊢
  have hl : lv_has ls 2 [(0, .ref q), (1, .int sp)] := hl
  refine lv_aload_n hx hb dX1_holdsIn_0 rfl (lv_at hl 0 rfl) ?_
  refine lv_iload_n hx hb dX1_holdsIn_1 rfl (lv_at hl 1 rfl) ?_
  refine vp_callSi (va_Run.run (va_runV (As := [.int sp]) (rest := []) ⟨hx, hb, hml, hown, hts⟩ (c_X1_pullIn l dC dI q k F sp hk) (cwV 1 hts gX1_holdsIn_X1_pullIn rfl rfl rfl (by decide +kernel) ⟨Nat.le_of_ble_eq_true rfl, Nat.le_of_ble_eq_true rfl⟩) ⟨PRo.blind, va_recv hK hP (ci := 1) (q0 := 0) rfl rfl, PRo.pre hP hK hE⟩ rfl rfl hl.1 rfl (lv_room (Nat.le_of_ble_eq_true rfl)) dX1_holdsIn_2 ⟨Nat.le_of_ble_eq_true rfl, Nat.le_of_ble_eq_true rfl⟩)) (fun r hr => ?_)
  subst hr
  refine lv_bipush (v := 100) hx hb dX1_holdsIn_5 (by decide) ?_
  refine lv_sipush (v := 6000) hx hb dX1_holdsIn_7 (by decide) ?_
  refine vp_callSi (va_Run.run (va_runSN (As := [.int (pl F k sp), .int 100, .int 6000]) (rest := []) ⟨hx, hb, hml, hown, hts⟩ (c_X2_isWithin l (pl F k sp) 100 6000) ⟨va_cnB 3 hts (goodIn_of _ (by decide +kernel)) rfl rfl rfl hE.1.1 (hts (.initialized RX2) (by decide +kernel)) (by decide +kernel) ⟨Nat.le_of_ble_eq_true rfl, Nat.le_of_ble_eq_true rfl⟩, hts (.static yX2_isWithin) (by decide +kernel), trivial⟩ ⟨fun a U g mk q => q, fun U hU hW => ⟨rfl, trivial⟩⟩ rfl rfl hl.1 rfl (lv_room (Nat.le_of_ble_eq_true rfl)) dX1_holdsIn_10 ⟨Nat.le_of_ble_eq_true rfl, Nat.le_of_ble_eq_true rfl⟩)) (fun r hr => ?_)
  subst hr
  exact W.zret (v := bi (held F k sp)) hx hb hr (nar_01 (bi_01 _)) (fun t ht _ => ⟨_, rfl, rfl, ht⟩) (fun q hq => absurd hq List.not_mem_nil) dX1_holdsIn_13

set_option maxHeartbeats 4000000 in
set_option maxRecDepth 100000 in
theorem c_X1_isReadyIn (l : Launch) (dC : Nat → ClassId) (dI : Nat → Nat → Nat) (q k : Nat) (F : Rows) (sp : Int32) (hk : F 0 k = 0 ∨ F 0 k = 1 ∨ F 0 k = 2) : Met l yX1_isReadyIn wsX1_isReadyIn ({ frames := 3, cells := 0, slots := 0, locals := 63 }) (va_Pc [.ref q, .int sp] (PRo dC dI [] [(q, kE F k)])) (vp_Si (fun r9 => r9 = bi (¬ F 5 k = -1 ∧ F 3 k = 0 ∧ F 6 k = -1 ∧ held F k sp))) 0 0 (fun _ => False) := by
  refine Met.ofW (cc := cX1_isReadyIn) (maxL := 2) (ret := (some .boolean)) (by decide) rfl ?_
  intro p e s m args below meth c s₁ B hml hv
  obtain ⟨rfl, hP, hK, hE⟩ := hv
  have hx := B.exec
  have hb := B.bytes
  have hr := B.returns
  have hts := atoms_spec (ws := wsX1_isReadyIn) B.pre
  have hown : s.vm.findClass RX1 = some m.cls := findClass_of_methodNamed B.named
  have hlocks := B.notSynchronized
  have hP : va_P (dC, dI) vwCl [(q, kE F k)] s.heap := hP
  have hi1 : ∀ w ∈ u_ws RX1 TX1 9, w ∈ wsX1_isReadyIn := by decide +kernel
  have lk24 := hts (.fieldLink RX1 24 "Windlane$Kite" "borrower" "I") (by decide +kernel)
  have lk30 := hts (.fieldLink RX1 30 "Windlane$Kite" "isTorn" "Z") (by decide +kernel)
  have hl := lv_entry ([.ref q, .int sp]) (n := 2) (Nat.le_of_ble_eq_true rfl)
  rw [lg_entry_eq]
  generalize (lg_sl ([.ref q, .int sp]) ++ List.replicate (2 - (lg_sl ([.ref q, .int sp])).length) Slot.unset).toArray = ls at hl ⊢
  have hl : lv_has ls 2 [(0, .ref q), (1, .int sp)] := hl
  refine lv_aload_n hx hb dX1_isReadyIn_0 rfl (lv_at hl 0 rfl) ?_
  refine va_get (D := (dC, dI)) (ci := 1) (v := .int (F 5 k)) (C := RX1) (T := TX1) (N := 9) hx hb hts hi1 hown hK hP 0 rfl rfl 6 (by decide) lk24 (fun _ h9 => h9) rfl dX1_isReadyIn_1 ?_
  refine lv_iconst (v := (-1)) hx hb dX1_isReadyIn_4 (by decide) ?_
  refine lv_icmp_eq (tgt := 34) hx hb dX1_isReadyIn_5 (by decide) (fun c_5 => ?_) (fun c_5 => ?_)
  · skip
    refine lv_iconst (v := 0) hx hb dX1_isReadyIn_34 (by decide) ?_
    exact W.zret (v := 0) hx hb hr rfl (fun t ht _ => ⟨_, rfl, (bi_f (fun h => h.1 c_5)).symm, ht⟩) (fun q hq => absurd hq List.not_mem_nil) dX1_isReadyIn_35
  · skip
    refine lv_aload_n hx hb dX1_isReadyIn_8 rfl (lv_at hl 0 rfl) ?_
    refine va_get (D := (dC, dI)) (ci := 1) (v := .int (F 3 k)) (C := RX1) (T := TX1) (N := 9) hx hb hts hi1 hown hK hP 0 rfl rfl 4 (by decide) lk30 (fun _ h9 => h9) rfl dX1_isReadyIn_9 ?_
    refine lv_if_ne (tgt := 34) hx hb dX1_isReadyIn_12 (by decide) (fun c_12 => ?_) (fun c_12 => ?_)
    · skip
      refine lv_iconst (v := 0) hx hb dX1_isReadyIn_34 (by decide) ?_
      exact W.zret (v := 0) hx hb hr rfl (fun t ht _ => ⟨_, rfl, (bi_f (fun h => c_12 h.2.1)).symm, ht⟩) (fun q hq => absurd hq List.not_mem_nil) dX1_isReadyIn_35
    · skip
      refine lv_aload_n hx hb dX1_isReadyIn_15 rfl (lv_at hl 0 rfl) ?_
      refine vp_callSi (va_Run.run (va_runV (As := []) (rest := []) ⟨hx, hb, hml, hown, hts⟩ (c_X1_isFlying l dC dI q k F) (cwV 0 hts gX1_isReadyIn_X1_isFlying rfl rfl rfl (by decide +kernel) ⟨Nat.le_of_ble_eq_true rfl, Nat.le_of_ble_eq_true rfl⟩) ⟨PRo.blind, va_recv hK hP (ci := 1) (q0 := 0) rfl rfl, PRo.pre hP hK hE⟩ rfl rfl hl.1 rfl (lv_room (Nat.le_of_ble_eq_true rfl)) dX1_isReadyIn_16 ⟨Nat.le_of_ble_eq_true rfl, Nat.le_of_ble_eq_true rfl⟩)) (fun r hr => ?_)
      subst hr
      refine lv_if_ne (tgt := 34) hx hb dX1_isReadyIn_19 (by decide) (fun c_19 => ?_) (fun c_19 => ?_)
      · skip
        have c_19 := bi_nz.mp c_19
        refine lv_iconst (v := 0) hx hb dX1_isReadyIn_34 (by decide) ?_
        exact W.zret (v := 0) hx hb hr rfl (fun t ht _ => ⟨_, rfl, (bi_f (fun h => c_19 h.2.2.1)).symm, ht⟩) (fun q hq => absurd hq List.not_mem_nil) dX1_isReadyIn_35
      · skip
        have c_19 := bi_z.mp c_19
        refine lv_aload_n hx hb dX1_isReadyIn_22 rfl (lv_at hl 0 rfl) ?_
        refine lv_iload_n hx hb dX1_isReadyIn_23 rfl (lv_at hl 1 rfl) ?_
        refine vp_callSi (va_Run.run (va_runV (As := [.int sp]) (rest := []) ⟨hx, hb, hml, hown, hts⟩ (c_X1_holdsIn l dC dI q k F sp hk) (cwV 1 hts gX1_isReadyIn_X1_holdsIn rfl rfl rfl (by decide +kernel) ⟨Nat.le_of_ble_eq_true rfl, Nat.le_of_ble_eq_true rfl⟩) ⟨PRo.blind, va_recv hK hP (ci := 1) (q0 := 0) rfl rfl, PRo.pre hP hK hE⟩ rfl rfl hl.1 rfl (lv_room (Nat.le_of_ble_eq_true rfl)) dX1_isReadyIn_24 ⟨Nat.le_of_ble_eq_true rfl, Nat.le_of_ble_eq_true rfl⟩)) (fun r hr => ?_)
        subst hr
        refine lv_if_eq (tgt := 34) hx hb dX1_isReadyIn_27 (by decide) (fun c_27 => ?_) (fun c_27 => ?_)
        · skip
          have c_27 := bi_z.mp c_27
          refine lv_iconst (v := 0) hx hb dX1_isReadyIn_34 (by decide) ?_
          exact W.zret (v := 0) hx hb hr rfl (fun t ht _ => ⟨_, rfl, (bi_f (fun h => c_27 h.2.2.2)).symm, ht⟩) (fun q hq => absurd hq List.not_mem_nil) dX1_isReadyIn_35
        · skip
          have c_27 := bi_nz.mp c_27
          refine lv_iconst (v := 1) hx hb dX1_isReadyIn_30 (by decide) ?_
          refine lv_goto (tgt := 35) hx hb dX1_isReadyIn_31 (by decide) ?_
          exact W.zret (v := 1) hx hb hr rfl (fun t ht _ => ⟨_, rfl, (bi_t ⟨c_5, c_12, Decidable.not_not.mp c_19, c_27⟩).symm, ht⟩) (fun q hq => absurd hq List.not_mem_nil) dX1_isReadyIn_35

set_option maxHeartbeats 4000000 in
set_option maxRecDepth 100000 in
theorem c_X1_endAt (l : Launch) (dC : Nat → ClassId) (dI : Nat → Nat → Nat) (q k : Nat) (F : Rows) (ln len sp sd : Int32) (hk : F 0 k = 0 ∨ F 0 k = 1 ∨ F 0 k = 2) (hst : ¬ 1000 + pl F k sp ≤ 0) : Met l yX1_endAt wsX1_endAt ({ frames := 2, cells := 0, slots := 0, locals := 42 }) (va_Pc [.ref q, .int ln, .int len, .int sp, .int sd] (PRo dC dI [] [(q, kE F k)])) (vp_Si (fun r9 => r9 = 100 * ln + sd * len * 1000 / (1000 + pl F k sp))) 0 0 (fun _ => False) := by
  refine Met.ofW (cc := cX1_endAt) (maxL := 7) (ret := (some .int)) (by decide) rfl ?_
  intro p e s m args below meth c s₁ B hml hv
  obtain ⟨rfl, hP, hK, hE⟩ := hv
  have hx := B.exec
  have hb := B.bytes
  have hr := B.returns
  have hts := atoms_spec (ws := wsX1_endAt) B.pre
  have hown : s.vm.findClass RX1 = some m.cls := findClass_of_methodNamed B.named
  have hlocks := B.notSynchronized
  have hP : va_P (dC, dI) vwCl [(q, kE F k)] s.heap := hP
  have hl := lv_entry ([.ref q, .int ln, .int len, .int sp, .int sd]) (n := 7) (Nat.le_of_ble_eq_true rfl)
  rw [lg_entry_eq]
  generalize (lg_sl ([.ref q, .int ln, .int len, .int sp, .int sd]) ++ List.replicate (7 - (lg_sl ([.ref q, .int ln, .int len, .int sp, .int sd])).length) Slot.unset).toArray = ls at hl ⊢
  have hl : lv_has ls 7 [(0, .ref q), (1, .int ln), (2, .int len), (3, .int sp), (4, .int sd)] := hl
  refine lv_sipush (v := 1000) hx hb dX1_endAt_0 (by decide) ?_
  refine lv_aload_n hx hb dX1_endAt_3 rfl (lv_at hl 0 rfl) ?_
  refine lv_iload_n hx hb dX1_endAt_4 rfl (lv_at hl 3 rfl) ?_
  refine vp_callSi (va_Run.run (va_runV (As := [.int sp]) (rest := [.int 1000]) ⟨hx, hb, hml, hown, hts⟩ (c_X1_pullIn l dC dI q k F sp hk) (cwV 1 hts gX1_endAt_X1_pullIn rfl rfl rfl (by decide +kernel) ⟨Nat.le_of_ble_eq_true rfl, Nat.le_of_ble_eq_true rfl⟩) ⟨PRo.blind, va_recv hK hP (ci := 1) (q0 := 0) rfl rfl, PRo.pre hP hK hE⟩ rfl rfl hl.1 rfl (lv_room (Nat.le_of_ble_eq_true rfl)) dX1_endAt_5 ⟨Nat.le_of_ble_eq_true rfl, Nat.le_of_ble_eq_true rfl⟩)) (fun r hr => ?_)
  subst hr
  refine lv_iadd hx hb dX1_endAt_8 ?_
  refine lv_istore (lv' := [(5, .int (1000 + (pl F k sp))), (0, .ref q), (1, .int ln), (2, .int len), (3, .int sp), (4, .int sd)]) hx hb dX1_endAt_9 hl (by decide) rfl (fun ls hl => ?_)
  refine lv_iload hx hb dX1_endAt_11 (lv_at hl 0 rfl) ?_
  refine lv_if_le (tgt := 30) hx hb dX1_endAt_13 (by decide) (fun c_13 => absurd c_13 (hst)) (fun _ => ?_)
  refine lv_iload hx hb dX1_endAt_16 (lv_at hl 5 rfl) ?_
  refine lv_iload_n hx hb dX1_endAt_18 rfl (lv_at hl 3 rfl) ?_
  refine lv_imul hx hb dX1_endAt_19 ?_
  refine lv_sipush (v := 1000) hx hb dX1_endAt_20 (by decide) ?_
  refine lv_imul hx hb dX1_endAt_23 ?_
  refine lv_iload hx hb dX1_endAt_24 (lv_at hl 0 rfl) ?_
  refine lv_idiv hx hb dX1_endAt_26 (fun h => by rw [h] at hst; exact hst (by decide)) ?_
  refine lv_goto (tgt := 31) hx hb dX1_endAt_27 (by decide) ?_
  refine lv_istore (lv' := [(6, .int (((sd * len) * 1000) / (1000 + (pl F k sp)))), (5, .int (1000 + (pl F k sp))), (0, .ref q), (1, .int ln), (2, .int len), (3, .int sp), (4, .int sd)]) hx hb dX1_endAt_31 hl (by decide) rfl (fun ls hl => ?_)
  refine lv_bipush (v := 100) hx hb dX1_endAt_33 (by decide) ?_
  refine lv_iload_n hx hb dX1_endAt_35 rfl (lv_at hl 3 rfl) ?_
  refine lv_imul hx hb dX1_endAt_36 ?_
  refine lv_iload hx hb dX1_endAt_37 (lv_at hl 0 rfl) ?_
  refine lv_iadd hx hb dX1_endAt_39 ?_
  exact W.iret (v := (100 * ln) + (((sd * len) * 1000) / (1000 + (pl F k sp)))) hx hb hr (fun t ht _ => ⟨_, rfl, rfl, ht⟩) (fun q hq => absurd hq List.not_mem_nil) dX1_endAt_40

set_option maxHeartbeats 4000000 in
set_option maxRecDepth 100000 in
theorem c_X1_endIn (l : Launch) (dC : Nat → ClassId) (dI : Nat → Nat → Nat) (q k : Nat) (F : Rows) (sp sd : Int32) (hk : F 0 k = 0 ∨ F 0 k = 1 ∨ F 0 k = 2) (hst : ¬ 1000 + pl F k sp ≤ 0) : Met l yX1_endIn wsX1_endIn ({ frames := 3, cells := 0, slots := 0, locals := 68 }) (va_Pc [.ref q, .int sp, .int sd] (PRo dC dI [] [(q, kE F k)])) (vp_Si (fun r9 => r9 = 100 * F 6 k + sd * F 7 k * 1000 / (1000 + pl F k sp))) 0 0 (fun _ => False) := by
  refine Met.ofW (cc := cX1_endIn) (maxL := 3) (ret := (some .int)) (by decide) rfl ?_
  intro p e s m args below meth c s₁ B hml hv
  obtain ⟨rfl, hP, hK, hE⟩ := hv
  have hx := B.exec
  have hb := B.bytes
  have hr := B.returns
  have hts := atoms_spec (ws := wsX1_endIn) B.pre
  have hown : s.vm.findClass RX1 = some m.cls := findClass_of_methodNamed B.named
  have hlocks := B.notSynchronized
  have hP : va_P (dC, dI) vwCl [(q, kE F k)] s.heap := hP
  have hi1 : ∀ w ∈ u_ws RX1 TX1 9, w ∈ wsX1_endIn := by decide +kernel
  have lk27 := hts (.fieldLink RX1 27 "Windlane$Kite" "lane" "I") (by decide +kernel)
  have lk60 := hts (.fieldLink RX1 60 "Windlane$Kite" "length" "I") (by decide +kernel)
  have hl := lv_entry ([.ref q, .int sp, .int sd]) (n := 3) (Nat.le_of_ble_eq_true rfl)
  rw [lg_entry_eq]
  generalize (lg_sl ([.ref q, .int sp, .int sd]) ++ List.replicate (3 - (lg_sl ([.ref q, .int sp, .int sd])).length) Slot.unset).toArray = ls at hl ⊢
  have hl : lv_has ls 3 [(0, .ref q), (1, .int sp), (2, .int sd)] := hl
  refine lv_aload_n hx hb dX1_endIn_0 rfl (lv_at hl 0 rfl) ?_
  refine lv_aload_n hx hb dX1_endIn_1 rfl (lv_at hl 0 rfl) ?_
  refine va_get (D := (dC, dI)) (ci := 1) (v := .int (F 6 k)) (C := RX1) (T := TX1) (N := 9) hx hb hts hi1 hown hK hP 0 rfl rfl 7 (by decide) lk27 (fun _ h9 => h9) rfl dX1_endIn_2 ?_
  refine lv_aload_n hx hb dX1_endIn_5 rfl (lv_at hl 0 rfl) ?_
  refine va_get (D := (dC, dI)) (ci := 1) (v := .int (F 7 k)) (C := RX1) (T := TX1) (N := 9) hx hb hts hi1 hown hK hP 0 rfl rfl 8 (by decide) lk60 (fun _ h9 => h9) rfl dX1_endIn_6 ?_
  refine lv_iload_n hx hb dX1_endIn_9 rfl (lv_at hl 1 rfl) ?_
  refine lv_iload_n hx hb dX1_endIn_10 rfl (lv_at hl 2 rfl) ?_
  refine vp_callSi (va_Run.run (va_runV (As := [.int (F 6 k), .int (F 7 k), .int sp, .int sd]) (rest := []) ⟨hx, hb, hml, hown, hts⟩ (c_X1_endAt l dC dI q k F (F 6 k) (F 7 k) sp sd hk hst) (cwV 4 hts gX1_endIn_X1_endAt rfl rfl rfl (by decide +kernel) ⟨Nat.le_of_ble_eq_true rfl, Nat.le_of_ble_eq_true rfl⟩) ⟨PRo.blind, va_recv hK hP (ci := 1) (q0 := 0) rfl rfl, PRo.pre hP hK hE⟩ rfl rfl hl.1 rfl (lv_room (Nat.le_of_ble_eq_true rfl)) dX1_endIn_11 ⟨Nat.le_of_ble_eq_true rfl, Nat.le_of_ble_eq_true rfl⟩)) (fun r hr => ?_)
  subst hr
  exact W.iret (v := 100 * F 6 k + sd * F 7 k * 1000 / (1000 + pl F k sp)) hx hb hr (fun t ht _ => ⟨_, rfl, rfl, ht⟩) (fun q hq => absurd hq List.not_mem_nil) dX1_endIn_14
end
section
theorem kE_up2 (F : Rows) (k : Nat) (v : Int32) : (.inr (1, [.int (nI k), .int (F 0 k), .int (F 1 k), .int v, .int (F 3 k), .int (F 4 k), .int (F 5 k), .int (F 6 k), .int (F 7 k)]) : va_E) = kE (up F 2 k v) k := by unfold kE; rw [up_ss]; rfl
theorem kE_up3 (F : Rows) (k : Nat) (v : Int32) : (.inr (1, [.int (nI k), .int (F 0 k), .int (F 1 k), .int (F 2 k), .int v, .int (F 4 k), .int (F 5 k), .int (F 6 k), .int (F 7 k)]) : va_E) = kE (up F 3 k v) k := by unfold kE; rw [up_ss]; rfl
theorem kE_up4 (F : Rows) (k : Nat) (v : Int32) : (.inr (1, [.int (nI k), .int (F 0 k), .int (F 1 k), .int (F 2 k), .int (F 3 k), .int v, .int (F 5 k), .int (F 6 k), .int (F 7 k)]) : va_E) = kE (up F 4 k v) k := by unfold kE; rw [up_ss]; rfl
theorem kE_up5 (F : Rows) (k : Nat) (v : Int32) : (.inr (1, [.int (nI k), .int (F 0 k), .int (F 1 k), .int (F 2 k), .int (F 3 k), .int (F 4 k), .int v, .int (F 6 k), .int (F 7 k)]) : va_E) = kE (up F 5 k v) k := by unfold kE; rw [up_ss]; rfl
theorem kE_up6 (F : Rows) (k : Nat) (v : Int32) : (.inr (1, [.int (nI k), .int (F 0 k), .int (F 1 k), .int (F 2 k), .int (F 3 k), .int (F 4 k), .int (F 5 k), .int v, .int (F 7 k)]) : va_E) = kE (up F 6 k v) k := by unfold kE; rw [up_ss]; rfl
theorem kE_up7 (F : Rows) (k : Nat) (v : Int32) : (.inr (1, [.int (nI k), .int (F 0 k), .int (F 1 k), .int (F 2 k), .int (F 3 k), .int (F 4 k), .int (F 5 k), .int (F 6 k), .int v]) : va_E) = kE (up F 7 k v) k := by unfold kE; rw [up_ss]; rfl
def la (kd ar st : Int32) : Int32 := if kd = 0 then 5 * ar * (2 * st - 1) else if kd = 1 then 60 * ar else if st ≤ 10 then 80 * ar else 0
theorem lift_2 (ar sp : Int32) : lift 2 ar sp = 80 * ar * (if sp ≤ 10 then sp else 10) := rfl
theorem la_2 (ar st : Int32) : la 2 ar st = if st ≤ 10 then 80 * ar else 0 := rfl
theorem la_lift {kd : Int32} (hk : kd = 0 ∨ kd = 1 ∨ kd = 2) (ar : Int32) {i : Nat} (hi : i < 1000) : lift kd ar (nI i) + la kd ar (nI (i + 1)) = lift kd ar (nI (i + 1)) := by
  rw [← nI_1 i]
  rcases hk with hk | hk | hk
  · subst hk
    rw [lift, lift, la, if_pos rfl, if_pos rfl, if_pos rfl]
    generalize nI i = x
    grind
  · subst hk
    rw [lift, lift, la, if_neg (by decide), if_pos rfl, if_neg (by decide), if_pos rfl, if_neg (by decide), if_pos rfl]
    generalize nI i = x
    grind
  · subst hk
    rw [lift_2, lift_2, la_2, nI_1 i]
    have h1 : nI i ≤ 10 ↔ i ≤ 10 := nI_leI (a := i) (b := 10) (by omega) (by omega)
    have h2 : nI (i + 1) ≤ 10 ↔ i + 1 ≤ 10 := nI_leI (a := i + 1) (b := 10) (by omega) (by omega)
    by_cases q : i + 1 ≤ 10
    · rw [if_pos (h1.mpr (by omega)), if_pos (h2.mpr q), if_pos (h2.mpr q), ← nI_1 i]
      generalize nI i = x
      grind
    · by_cases q2 : i = 10
      · subst q2
        rw [if_pos (h1.mpr (by omega)), if_neg (fun z => q (h2.mp z)), if_neg (fun z => q (h2.mp z))]
        show 80 * ar * 10 + 0 = 80 * ar * 10
        grind
      · rw [if_neg (fun z => absurd (h1.mp z) (by omega)), if_neg (fun z => q (h2.mp z)), if_neg (fun z => q (h2.mp z))]
        grind
theorem la_pl {F : Rows} {k : Nat} (hk : F 0 k = 0 ∨ F 0 k = 1 ∨ F 0 k = 2) {i : Nat} (hi : i < 1000) : pl F k (nI i) + la (F 0 k) (F 1 k) (nI (i + 1)) = pl F k (nI (i + 1)) := by
  rw [pl, pl, ← la_lift hk (F 1 k) hi]
  generalize lift (F 0 k) (F 1 k) (nI i) = x
  generalize la (F 0 k) (F 1 k) (nI (i + 1)) = y
  grind
theorem pl_0 {F : Rows} {k : Nat} (hk : F 0 k = 0 ∨ F 0 k = 1 ∨ F 0 k = 2) : (-100) * F 2 k = pl F k (nI 0) := by
  rw [pl, nI_0, lift]
  rcases hk with hk | hk | hk
  · rw [hk, if_pos rfl]; grind
  · rw [hk, if_neg (by decide), if_pos rfl]; grind
  · rw [hk, if_neg (by decide), if_neg (by decide), if_pos (by decide)]; grind

set_option maxHeartbeats 4000000 in
set_option maxRecDepth 100000 in
theorem c_X1_liftAddedBy (l : Launch) (dC : Nat → ClassId) (dI : Nat → Nat → Nat) (q k : Nat) (F : Rows) (st : Int32) (hk : F 0 k = 0 ∨ F 0 k = 1 ∨ F 0 k = 2) : Met l yX1_liftAddedBy wsX1_liftAddedBy ({ frames := 0, cells := 0, slots := 0, locals := 0 }) (va_Pc [.ref q, .int st] (PRo dC dI [] [(q, kE F k)])) (vp_Si (fun r9 => r9 = la (F 0 k) (F 1 k) st)) 0 0 (fun _ => False) := by
  refine Met.ofW (cc := cX1_liftAddedBy) (maxL := 2) (ret := (some .int)) (by decide) rfl ?_
  intro p e s m args below meth c s₁ B hml hv
  obtain ⟨rfl, hP, hK, hE⟩ := hv
  have hx := B.exec
  have hb := B.bytes
  have hr := B.returns
  have hts := atoms_spec (ws := wsX1_liftAddedBy) B.pre
  have hown : s.vm.findClass RX1 = some m.cls := findClass_of_methodNamed B.named
  have hlocks := B.notSynchronized
  have hP : va_P (dC, dI) vwCl [(q, kE F k)] s.heap := hP
  have hi1 : ∀ w ∈ u_ws RX1 TX1 9, w ∈ wsX1_liftAddedBy := by decide +kernel
  have lk15 := hts (.fieldLink RX1 15 "Windlane$Kite" "kind" "I") (by decide +kernel)
  have lk18 := hts (.fieldLink RX1 18 "Windlane$Kite" "area" "I") (by decide +kernel)
  have hl := lv_entry ([.ref q, .int st]) (n := 2) (Nat.le_of_ble_eq_true rfl)
  rw [lg_entry_eq]
  generalize (lg_sl ([.ref q, .int st]) ++ List.replicate (2 - (lg_sl ([.ref q, .int st])).length) Slot.unset).toArray = ls at hl ⊢
  have hl : lv_has ls 2 [(0, .ref q), (1, .int st)] := hl
  rcases hk with hk | hk | hk
  · skip
    refine lv_aload_n hx hb dX1_liftAddedBy_0 rfl (lv_at hl 0 rfl) ?_
    refine va_get (D := (dC, dI)) (ci := 1) (v := .int (F 0 k)) (C := RX1) (T := TX1) (N := 9) hx hb hts hi1 hown hK hP 0 rfl rfl 1 (by decide) lk15 (fun _ h9 => h9) rfl dX1_liftAddedBy_1 ?_
    refine W_top (y := .int 0) (congrArg Value.int hk) ?_
    refine lv_lookup (off := 28) (tgt := 32) hx hb dX1_liftAddedBy_4 (by decide) (by decide +kernel) (by decide) ?_
    refine lv_iconst (v := 5) hx hb dX1_liftAddedBy_32 (by decide) ?_
    refine lv_aload_n hx hb dX1_liftAddedBy_33 rfl (lv_at hl 0 rfl) ?_
    refine va_get (D := (dC, dI)) (ci := 1) (v := .int (F 1 k)) (C := RX1) (T := TX1) (N := 9) hx hb hts hi1 hown hK hP 0 rfl rfl 2 (by decide) lk18 (fun _ h9 => h9) rfl dX1_liftAddedBy_34 ?_
    refine lv_imul hx hb dX1_liftAddedBy_37 ?_
    refine lv_iconst (v := 2) hx hb dX1_liftAddedBy_38 (by decide) ?_
    refine lv_iload_n hx hb dX1_liftAddedBy_39 rfl (lv_at hl 1 rfl) ?_
    refine lv_imul hx hb dX1_liftAddedBy_40 ?_
    refine lv_iconst (v := 1) hx hb dX1_liftAddedBy_41 (by decide) ?_
    refine lv_isub hx hb dX1_liftAddedBy_42 ?_
    refine lv_imul hx hb dX1_liftAddedBy_43 ?_
    exact W.iret (v := (5 * (F 1 k)) * ((2 * st) - 1)) hx hb hr (fun t ht _ => ⟨_, rfl, by rw [la, hk]; rfl, ht⟩) (fun q hq => absurd hq List.not_mem_nil) dX1_liftAddedBy_44
  · skip
    refine lv_aload_n hx hb dX1_liftAddedBy_0 rfl (lv_at hl 0 rfl) ?_
    refine va_get (D := (dC, dI)) (ci := 1) (v := .int (F 0 k)) (C := RX1) (T := TX1) (N := 9) hx hb hts hi1 hown hK hP 0 rfl rfl 1 (by decide) lk15 (fun _ h9 => h9) rfl dX1_liftAddedBy_1 ?_
    refine W_top (y := .int 1) (congrArg Value.int hk) ?_
    refine lv_lookup (off := 41) (tgt := 45) hx hb dX1_liftAddedBy_4 (by decide) (by decide +kernel) (by decide) ?_
    refine lv_bipush (v := 60) hx hb dX1_liftAddedBy_45 (by decide) ?_
    refine lv_aload_n hx hb dX1_liftAddedBy_47 rfl (lv_at hl 0 rfl) ?_
    refine va_get (D := (dC, dI)) (ci := 1) (v := .int (F 1 k)) (C := RX1) (T := TX1) (N := 9) hx hb hts hi1 hown hK hP 0 rfl rfl 2 (by decide) lk18 (fun _ h9 => h9) rfl dX1_liftAddedBy_48 ?_
    refine lv_imul hx hb dX1_liftAddedBy_51 ?_
    exact W.iret (v := 60 * (F 1 k)) hx hb hr (fun t ht _ => ⟨_, rfl, by rw [la, hk]; rfl, ht⟩) (fun q hq => absurd hq List.not_mem_nil) dX1_liftAddedBy_52
  · skip
    refine lv_aload_n hx hb dX1_liftAddedBy_0 rfl (lv_at hl 0 rfl) ?_
    refine va_get (D := (dC, dI)) (ci := 1) (v := .int (F 0 k)) (C := RX1) (T := TX1) (N := 9) hx hb hts hi1 hown hK hP 0 rfl rfl 1 (by decide) lk15 (fun _ h9 => h9) rfl dX1_liftAddedBy_1 ?_
    refine W_top (y := .int 2) (congrArg Value.int hk) ?_
    refine lv_lookup (off := 49) (tgt := 53) hx hb dX1_liftAddedBy_4 (by decide) (by decide +kernel) (by decide) ?_
    refine lv_iload_n hx hb dX1_liftAddedBy_53 rfl (lv_at hl 1 rfl) ?_
    refine lv_bipush (v := 10) hx hb dX1_liftAddedBy_54 (by decide) ?_
    refine lv_icmp_gt (tgt := 69) hx hb dX1_liftAddedBy_56 (by decide) (fun c_56 => ?_) (fun c_56 => ?_)
    · skip
      refine lv_iconst (v := 0) hx hb dX1_liftAddedBy_69 (by decide) ?_
      exact W.iret (v := 0) hx hb hr (fun t ht _ => ⟨_, rfl, by rw [la, hk, if_neg (by decide), if_neg (by decide), if_neg (fun q => by rw [i32_lt] at c_56; rw [i32_le] at q; omega)], ht⟩) (fun q hq => absurd hq List.not_mem_nil) dX1_liftAddedBy_70
    · skip
      refine lv_bipush (v := 80) hx hb dX1_liftAddedBy_59 (by decide) ?_
      refine lv_aload_n hx hb dX1_liftAddedBy_61 rfl (lv_at hl 0 rfl) ?_
      refine va_get (D := (dC, dI)) (ci := 1) (v := .int (F 1 k)) (C := RX1) (T := TX1) (N := 9) hx hb hts hi1 hown hK hP 0 rfl rfl 2 (by decide) lk18 (fun _ h9 => h9) rfl dX1_liftAddedBy_62 ?_
      refine lv_imul hx hb dX1_liftAddedBy_65 ?_
      refine lv_goto (tgt := 70) hx hb dX1_liftAddedBy_66 (by decide) ?_
      exact W.iret (v := 80 * (F 1 k)) hx hb hr (fun t ht _ => ⟨_, rfl, by rw [la, hk, if_neg (by decide), if_neg (by decide), if_pos (by rw [i32_lt] at c_56; rw [i32_le]; omega)], ht⟩) (fun q hq => absurd hq List.not_mem_nil) dX1_liftAddedBy_70

set_option maxHeartbeats 4000000 in
set_option maxRecDepth 100000 in
theorem c_X1_pullByStepsTo (l : Launch) (dC : Nat → ClassId) (dI : Nat → Nat → Nat) (q k : Nat) (F : Rows) (m0 : Nat) (hk : F 0 k = 0 ∨ F 0 k = 1 ∨ F 0 k = 2) (hm : m0 ≤ 30) : Met l yX1_pullByStepsTo wsX1_pullByStepsTo ({ frames := 1, cells := 0, slots := 0, locals := 21 }) (va_Pc [.ref q, .int (nI m0)] (PRo dC dI [] [(q, kE F k)])) (vp_Si (fun r9 => r9 = pl F k (nI m0))) 0 0 (fun _ => False) := by
  refine Met.ofW (cc := cX1_pullByStepsTo) (maxL := 4) (ret := (some .int)) (by decide) rfl ?_
  intro p e s m args below meth c s₁ B hml hv
  obtain ⟨rfl, hP, hK, hE⟩ := hv
  have hx := B.exec
  have hb := B.bytes
  have hr := B.returns
  have hts := atoms_spec (ws := wsX1_pullByStepsTo) B.pre
  have hown : s.vm.findClass RX1 = some m.cls := findClass_of_methodNamed B.named
  have hlocks := B.notSynchronized
  have hP : va_P (dC, dI) vwCl [(q, kE F k)] s.heap := hP
  have hi1 : ∀ w ∈ u_ws RX1 TX1 9, w ∈ wsX1_pullByStepsTo := by decide +kernel
  have lk21 := hts (.fieldLink RX1 21 "Windlane$Kite" "weight" "I") (by decide +kernel)
  have hl := lv_entry ([.ref q, .int (nI m0)]) (n := 4) (Nat.le_of_ble_eq_true rfl)
  rw [lg_entry_eq]
  generalize (lg_sl ([.ref q, .int (nI m0)]) ++ List.replicate (4 - (lg_sl ([.ref q, .int (nI m0)])).length) Slot.unset).toArray = ls at hl ⊢
  have hl : lv_has ls 4 [(0, .ref q), (1, .int (nI m0))] := hl
  refine lv_bipush (v := (-100)) hx hb dX1_pullByStepsTo_0 (by decide) ?_
  refine lv_aload_n hx hb dX1_pullByStepsTo_2 rfl (lv_at hl 0 rfl) ?_
  refine va_get (D := (dC, dI)) (ci := 1) (v := .int (F 2 k)) (C := RX1) (T := TX1) (N := 9) hx hb hts hi1 hown hK hP 0 rfl rfl 3 (by decide) lk21 (fun _ h9 => h9) rfl dX1_pullByStepsTo_3 ?_
  refine lv_imul hx hb dX1_pullByStepsTo_6 ?_
  refine lv_istore_n (lv' := [(2, .int ((-100) * (F 2 k))), (0, .ref q), (1, .int (nI m0))]) hx hb dX1_pullByStepsTo_7 rfl hl (by decide) rfl (fun ls hl => ?_)
  refine lv_iconst (v := 1) hx hb dX1_pullByStepsTo_8 (by decide) ?_
  refine lv_istore_n (lv' := [(3, .int 1), (2, .int ((-100) * (F 2 k))), (0, .ref q), (1, .int (nI m0))]) hx hb dX1_pullByStepsTo_9 rfl hl (by decide) rfl (fun ls hl => ?_)
  refine W_loopR (nL := 4) (fun i : Nat => [(2, .int (pl F k (nI i))), (3, .int (nI (i + 1))), (0, .ref q), (1, .int (nI m0))]) (fun i => i ≤ m0) (fun i => m0 - i) ?_ 0 (Nat.zero_le _) ?_
  · intro i ls hi hl ih
    have hl : lv_has ls 4 [(2, .int (pl F k (nI i))), (3, .int (nI (i + 1))), (0, .ref q), (1, .int (nI m0))] := hl
    refine lv_iload_n hx hb dX1_pullByStepsTo_10 rfl (lv_at hl 1 rfl) ?_
    refine lv_iload_n hx hb dX1_pullByStepsTo_11 rfl (lv_at hl 3 rfl) ?_
    refine lv_icmp_gt (tgt := 29) hx hb dX1_pullByStepsTo_12 (by decide) (fun c_12 => ?_) (fun c_12 => ?_)
    · skip
      have hii : i = m0 := by have q := (nI_ltI (a := m0) (b := i + 1) (by omega) (by omega)).mp c_12; omega
      subst hii
      refine lv_iload_n hx hb dX1_pullByStepsTo_29 rfl (lv_at hl 0 rfl) ?_
      exact W.iret (v := pl F k (nI i)) hx hb hr (fun t ht _ => ⟨_, rfl, rfl, ht⟩) (fun q hq => absurd hq List.not_mem_nil) dX1_pullByStepsTo_30
    · skip
      have hii : i < m0 := Nat.not_le.mp (fun q => c_12 ((nI_ltI (a := m0) (b := i + 1) (by omega) (by omega)).mpr (by omega)))
      refine lv_iload_n hx hb dX1_pullByStepsTo_15 rfl (lv_at hl 0 rfl) ?_
      refine lv_aload_n hx hb dX1_pullByStepsTo_16 rfl (lv_at hl 2 rfl) ?_
      refine lv_iload_n hx hb dX1_pullByStepsTo_17 rfl (lv_at hl 1 rfl) ?_
      refine vp_callSi (va_Run.run (va_runV (As := [.int (nI (i + 1))]) (rest := [.int (pl F k (nI i))]) ⟨hx, hb, hml, hown, hts⟩ (c_X1_liftAddedBy l dC dI q k F (nI (i + 1)) hk) (cwV 1 hts gX1_pullByStepsTo_X1_liftAddedBy rfl rfl rfl (by decide +kernel) ⟨Nat.le_of_ble_eq_true rfl, Nat.le_of_ble_eq_true rfl⟩) ⟨PRo.blind, va_recv hK hP (ci := 1) (q0 := 0) rfl rfl, PRo.pre hP hK hE⟩ rfl rfl hl.1 rfl (lv_room (Nat.le_of_ble_eq_true rfl)) dX1_pullByStepsTo_18 ⟨Nat.le_of_ble_eq_true rfl, Nat.le_of_ble_eq_true rfl⟩)) (fun r hr => ?_)
      subst hr
      refine lv_iadd hx hb dX1_pullByStepsTo_21 ?_
      refine W_top (y := .int (pl F k (nI (i + 1)))) (congrArg Value.int (la_pl hk (by omega))) ?_
      refine lv_istore_n (lv' := [(2, .int (pl F k (nI (i + 1)))), (3, .int (nI (i + 1))), (0, .ref q), (1, .int (nI m0))]) hx hb dX1_pullByStepsTo_22 rfl hl (by decide) rfl (fun ls hl => ?_)
      refine lv_iinc (v := nI ((i + 1) + 1)) (lv' := [(3, .int (nI ((i + 1) + 1))), (2, .int (pl F k (nI (i + 1)))), (0, .ref q), (1, .int (nI m0))]) hx hb dX1_pullByStepsTo_23 hl (k := 1) rfl (nI_1 _) (by decide) rfl (fun ls hl => ?_)
      refine lv_goto (tgt := 10) hx hb dX1_pullByStepsTo_26 (by decide) ?_
      exact ih (i + 1) ls (by omega) (by omega) (lv_sub hl [1, 0, 2, 3] rfl)
  · rw [← pl_0 hk]
    exact lv_sub hl [1, 0, 2, 3] rfl

set_option maxHeartbeats 4000000 in
set_option maxRecDepth 100000 in
theorem c_X1_spendHour (l : Launch) (dC : Nat → ClassId) (dI : Nat → Nat → Nat) (sz : Nat) (q k : Nat) (F : Rows) (b : Int32) : Met l yX1_spendHour wsX1_spendHour ({ frames := 1, cells := 0, slots := 0, locals := 20 }) (va_Pc [.ref q, .int b] (PWr dC dI [] ([(q, kE F k)]) sz)) (va_Qv (fun _ : Unit => True) (fun _ t => va_P (dC, dI) vwCl [(q, kE (up F 4 k (if ¬ b = 0 ∧ ¬ F 6 k = -1 then 6 else if 0 < F 4 k then F 4 k - 1 else F 4 k)) k)] t.heap) (va_A ([(q, kE F k)]) sz)) 0 0 (va_A ([(q, kE F k)]) sz) := by
  refine Met.ofW (cc := cX1_spendHour) (maxL := 2) (ret := none) (by decide) rfl ?_
  intro p e s m args below meth c s₁ B hml hv
  obtain ⟨rfl, hsz, hP, hK, hD0, hE, hH⟩ := hv
  have hx := B.exec
  have hb := B.bytes
  have hr := B.returns
  have hts := atoms_spec (ws := wsX1_spendHour) B.pre
  have hown : s.vm.findClass RX1 = some m.cls := findClass_of_methodNamed B.named
  have hlocks := B.notSynchronized
  have hi1 : ∀ w ∈ u_ws RX1 TX1 9, w ∈ wsX1_spendHour := by decide +kernel
  have lk34 := hts (.fieldLink RX1 34 "Windlane$Kite" "wetHours" "I") (by decide +kernel)
  subst hsz
  have hD := hD0.self (sz := s.heap.size)
  generalize hAe : va_A ([(q, kE F k)]) s.heap.size = A at hD hH ⊢
  have hA : ∀ q : Nat, s.heap.size ≤ q → A q := fun q h => by rw [← hAe]; exact Or.inr h
  have hS : va_S A s.heap s.heap [] := va_S.rf
  have hP : va_P (dC, dI) vwCl ([(q, kE F k)]) s.heap := hP
  have hl := lv_entry ([.ref q, .int b]) (n := 2) (Nat.le_of_ble_eq_true rfl)
  rw [lg_entry_eq]
  generalize (lg_sl ([.ref q, .int b]) ++ List.replicate (2 - (lg_sl ([.ref q, .int b])).length) Slot.unset).toArray = ls at hl ⊢
  have hl : lv_has ls 2 [(0, .ref q), (1, .int b)] := hl
  refine lv_iload_n hx hb dX1_spendHour_0 rfl (lv_at hl 1 rfl) ?_
  refine lv_if_eq (tgt := 20) hx hb dX1_spendHour_1 (by decide) (fun c_1 => ?_) (fun c_1 => ?_)
  · skip
    refine lv_aload_n hx hb dX1_spendHour_20 rfl (lv_at hl 0 rfl) ?_
    refine va_get (D := (dC, dI)) (ci := 1) (v := .int (F 4 k)) (C := RX1) (T := TX1) (N := 9) hx hb hts hi1 hown hK hP 0 rfl rfl 5 (by decide) lk34 (fun _ h9 => h9) rfl dX1_spendHour_21 ?_
    refine lv_if_le (tgt := 37) hx hb dX1_spendHour_24 (by decide) (fun c_24 => ?_) (fun c_24 => ?_)
    · skip
      have hP : va_P (dC, dI) vwCl [(q, kE (up F 4 k (F 4 k)) k)] s.heap := by rw [← kE_up4]; exact hP
      have ev : (if ¬ b = 0 ∧ ¬ F 6 k = -1 then 6 else if 0 < F 4 k then F 4 k - 1 else F 4 k) = F 4 k := by rw [if_neg (fun h => h.1 c_1), if_neg (by rw [i32_lt]; rw [i32_le] at c_24; omega)]
      rw [ev]
      exact W.vret hx hb hr (fun t ht hW => ⟨⟨(), rfl, trivial, by show va_P _ _ _ t.heap; rw [ht]; exact hP⟩, hS.F ht⟩) hS.2.2 dX1_spendHour_37
    · skip
      refine lv_aload_n hx hb dX1_spendHour_27 rfl (lv_at hl 0 rfl) ?_
      refine lv_dup hx hb dX1_spendHour_28 rfl ?_
      refine va_get (D := (dC, dI)) (ci := 1) (v := .int (F 4 k)) (C := RX1) (T := TX1) (N := 9) hx hb hts hi1 hown hK hP 0 rfl rfl 5 (by decide) lk34 (fun _ h9 => h9) rfl dX1_spendHour_29 ?_
      refine lv_iconst (v := 1) hx hb dX1_spendHour_32 (by decide) ?_
      refine lv_isub hx hb dX1_spendHour_33 ?_
      refine va_put (D := (dC, dI)) (ci := 1) (v := .int ((F 4 k) - 1)) (ty := .int) (C := RX1) (T := TX1) (N := 9) hx hb hts hi1 tyX1 tyX1_ok nmX1 hown hK hP hD hS 0 rfl rfl 5 (by decide) lk34 (fun _ h9 => h9) rfl (by decide +kernel) rfl rfl (Nat.le_of_ble_eq_true rfl) dX1_spendHour_34 (fun H locs hP hD hS => ?_)
      have hP : va_P (dC, dI) vwCl [(q, kE (up F 4 k ((F 4 k) - 1)) k)] H := by rw [← kE_up4]; exact hP
      have hD : va_D A [(q, kE (up F 4 k ((F 4 k) - 1)) k)] := by rw [← kE_up4]; exact hD
      have ev : (if ¬ b = 0 ∧ ¬ F 6 k = -1 then 6 else if 0 < F 4 k then F 4 k - 1 else F 4 k) = (F 4 k) - 1 := by rw [if_neg (fun h => h.1 c_1), if_pos (by rw [i32_lt]; rw [i32_le] at c_24; omega)]
      rw [ev]
      exact W.vret hx hb hr (fun t ht hW => ⟨⟨(), rfl, trivial, by show va_P _ _ _ t.heap; rw [ht]; exact hP⟩, hS.F ht⟩) hS.2.2 dX1_spendHour_37
  · skip
    refine lv_aload_n hx hb dX1_spendHour_4 rfl (lv_at hl 0 rfl) ?_
    refine vp_callSi (va_Run.run (va_runV (As := []) (rest := []) ⟨hx, hb, hml, hown, hts⟩ (c_X1_isFlying l dC dI q k F) (cwV 0 hts gX1_spendHour_X1_isFlying rfl rfl rfl (by decide +kernel) ⟨Nat.le_of_ble_eq_true rfl, Nat.le_of_ble_eq_true rfl⟩) ⟨PRo.blind, va_recv hK hP (ci := 1) (q0 := 0) rfl rfl, PRo.pre hP hK hE⟩ rfl rfl hl.1 rfl (lv_room (Nat.le_of_ble_eq_true rfl)) dX1_spendHour_5 ⟨Nat.le_of_ble_eq_true rfl, Nat.le_of_ble_eq_true rfl⟩)) (fun r hr => ?_)
    subst hr
    refine lv_if_eq (tgt := 20) hx hb dX1_spendHour_8 (by decide) (fun c_8 => ?_) (fun c_8 => ?_)
    · skip
      have c_8 := bi_z.mp c_8
      refine lv_aload_n hx hb dX1_spendHour_20 rfl (lv_at hl 0 rfl) ?_
      refine va_get (D := (dC, dI)) (ci := 1) (v := .int (F 4 k)) (C := RX1) (T := TX1) (N := 9) hx hb hts hi1 hown hK hP 0 rfl rfl 5 (by decide) lk34 (fun _ h9 => h9) rfl dX1_spendHour_21 ?_
      refine lv_if_le (tgt := 37) hx hb dX1_spendHour_24 (by decide) (fun c_24 => ?_) (fun c_24 => ?_)
      · skip
        have hP : va_P (dC, dI) vwCl [(q, kE (up F 4 k (F 4 k)) k)] s.heap := by rw [← kE_up4]; exact hP
        have ev : (if ¬ b = 0 ∧ ¬ F 6 k = -1 then 6 else if 0 < F 4 k then F 4 k - 1 else F 4 k) = F 4 k := by rw [if_neg (fun h => c_8 h.2), if_neg (by rw [i32_lt]; rw [i32_le] at c_24; omega)]
        rw [ev]
        exact W.vret hx hb hr (fun t ht hW => ⟨⟨(), rfl, trivial, by show va_P _ _ _ t.heap; rw [ht]; exact hP⟩, hS.F ht⟩) hS.2.2 dX1_spendHour_37
      · skip
        refine lv_aload_n hx hb dX1_spendHour_27 rfl (lv_at hl 0 rfl) ?_
        refine lv_dup hx hb dX1_spendHour_28 rfl ?_
        refine va_get (D := (dC, dI)) (ci := 1) (v := .int (F 4 k)) (C := RX1) (T := TX1) (N := 9) hx hb hts hi1 hown hK hP 0 rfl rfl 5 (by decide) lk34 (fun _ h9 => h9) rfl dX1_spendHour_29 ?_
        refine lv_iconst (v := 1) hx hb dX1_spendHour_32 (by decide) ?_
        refine lv_isub hx hb dX1_spendHour_33 ?_
        refine va_put (D := (dC, dI)) (ci := 1) (v := .int ((F 4 k) - 1)) (ty := .int) (C := RX1) (T := TX1) (N := 9) hx hb hts hi1 tyX1 tyX1_ok nmX1 hown hK hP hD hS 0 rfl rfl 5 (by decide) lk34 (fun _ h9 => h9) rfl (by decide +kernel) rfl rfl (Nat.le_of_ble_eq_true rfl) dX1_spendHour_34 (fun H locs hP hD hS => ?_)
        have hP : va_P (dC, dI) vwCl [(q, kE (up F 4 k ((F 4 k) - 1)) k)] H := by rw [← kE_up4]; exact hP
        have hD : va_D A [(q, kE (up F 4 k ((F 4 k) - 1)) k)] := by rw [← kE_up4]; exact hD
        have ev : (if ¬ b = 0 ∧ ¬ F 6 k = -1 then 6 else if 0 < F 4 k then F 4 k - 1 else F 4 k) = (F 4 k) - 1 := by rw [if_neg (fun h => c_8 h.2), if_pos (by rw [i32_lt]; rw [i32_le] at c_24; omega)]
        rw [ev]
        exact W.vret hx hb hr (fun t ht hW => ⟨⟨(), rfl, trivial, by show va_P _ _ _ t.heap; rw [ht]; exact hP⟩, hS.F ht⟩) hS.2.2 dX1_spendHour_37
    · skip
      have c_8 := bi_nz.mp c_8
      refine lv_aload_n hx hb dX1_spendHour_11 rfl (lv_at hl 0 rfl) ?_
      refine lv_bipush (v := 6) hx hb dX1_spendHour_12 (by decide) ?_
      refine va_put (D := (dC, dI)) (ci := 1) (v := .int 6) (ty := .int) (C := RX1) (T := TX1) (N := 9) hx hb hts hi1 tyX1 tyX1_ok nmX1 hown hK hP hD hS 0 rfl rfl 5 (by decide) lk34 (fun _ h9 => h9) rfl (by decide +kernel) rfl rfl (Nat.le_of_ble_eq_true rfl) dX1_spendHour_14 (fun H locs hP hD hS => ?_)
      have hP : va_P (dC, dI) vwCl [(q, kE (up F 4 k (6)) k)] H := by rw [← kE_up4]; exact hP
      have hD : va_D A [(q, kE (up F 4 k (6)) k)] := by rw [← kE_up4]; exact hD
      refine lv_goto (tgt := 37) hx hb dX1_spendHour_17 (by decide) ?_
      have ev : (if ¬ b = 0 ∧ ¬ F 6 k = -1 then 6 else if 0 < F 4 k then F 4 k - 1 else F 4 k) = 6 := by rw [if_pos ⟨c_1, c_8⟩]
      rw [ev]
      exact W.vret hx hb hr (fun t ht hW => ⟨⟨(), rfl, trivial, by show va_P _ _ _ t.heap; rw [ht]; exact hP⟩, hS.F ht⟩) hS.2.2 dX1_spendHour_37

set_option maxHeartbeats 4000000 in
set_option maxRecDepth 100000 in
theorem c_X1_init (l : Launch) (dC : Nat → ClassId) (dI : Nat → Nat → Nat) (sz : Nat) (q : Nat) (nu kd ar wt : Int32) : Met l yX1_init wsX1_init ({ frames := 1, cells := 0, slots := 0, locals := 12 }) (va_Pc [.ref q, .int nu, .int kd, .int ar, .int wt] (PWr dC dI [] ([(q, .inr (1, [.int 0, .int 0, .int 0, .int 0, .int 0, .int 0, .int 0, .int 0, .int 0]))]) sz)) (va_Qv (fun _ : Unit => True) (fun _ t => va_P (dC, dI) vwCl [(q, .inr (1, [.int nu, .int kd, .int ar, .int wt, .int 0, .int 0, .int (-1), .int (-1), .int 0]))] t.heap) (va_A ([(q, .inr (1, [.int 0, .int 0, .int 0, .int 0, .int 0, .int 0, .int 0, .int 0, .int 0]))]) sz)) 0 0 (va_A ([(q, .inr (1, [.int 0, .int 0, .int 0, .int 0, .int 0, .int 0, .int 0, .int 0, .int 0]))]) sz) := by
  refine Met.ofW (cc := cX1_init) (maxL := 5) (ret := none) (by decide) rfl ?_
  intro p e s m args below meth c s₁ B hml hv
  obtain ⟨rfl, hsz, hP, hK, hD0, hE, hH⟩ := hv
  have hx := B.exec
  have hb := B.bytes
  have hr := B.returns
  have hts := atoms_spec (ws := wsX1_init) B.pre
  have hown : s.vm.findClass RX1 = some m.cls := findClass_of_methodNamed B.named
  have hlocks := B.notSynchronized
  have hin : meth.name = "<init>" := (name_of_methodNamed B.named B.method).1
  have hi1 : ∀ w ∈ u_ws RX1 TX1 9, w ∈ wsX1_init := by decide +kernel
  have lk9 := hts (.fieldLink RX1 9 "Windlane$Kite" "number" "I") (by decide +kernel)
  have lk15 := hts (.fieldLink RX1 15 "Windlane$Kite" "kind" "I") (by decide +kernel)
  have lk18 := hts (.fieldLink RX1 18 "Windlane$Kite" "area" "I") (by decide +kernel)
  have lk21 := hts (.fieldLink RX1 21 "Windlane$Kite" "weight" "I") (by decide +kernel)
  have lk24 := hts (.fieldLink RX1 24 "Windlane$Kite" "borrower" "I") (by decide +kernel)
  have lk27 := hts (.fieldLink RX1 27 "Windlane$Kite" "lane" "I") (by decide +kernel)
  subst hsz
  have hD := hD0.self (sz := s.heap.size)
  generalize hAe : va_A ([(q, .inr (1, [.int 0, .int 0, .int 0, .int 0, .int 0, .int 0, .int 0, .int 0, .int 0]))]) s.heap.size = A at hD hH ⊢
  have hA : ∀ q : Nat, s.heap.size ≤ q → A q := fun q h => by rw [← hAe]; exact Or.inr h
  have hS : va_S A s.heap s.heap [] := va_S.rf
  have hP : va_P (dC, dI) vwCl ([(q, .inr (1, [.int 0, .int 0, .int 0, .int 0, .int 0, .int 0, .int 0, .int 0, .int 0]))]) s.heap := hP
  have hl := lv_entry ([.ref q, .int nu, .int kd, .int ar, .int wt]) (n := 5) (Nat.le_of_ble_eq_true rfl)
  rw [lg_entry_eq]
  generalize (lg_sl ([.ref q, .int nu, .int kd, .int ar, .int wt]) ++ List.replicate (5 - (lg_sl ([.ref q, .int nu, .int kd, .int ar, .int wt])).length) Slot.unset).toArray = ls at hl ⊢
  have hl : lv_has ls 5 [(0, .ref q), (1, .int nu), (2, .int kd), (3, .int ar), (4, .int wt)] := hl
  refine lv_aload_n hx hb dX1_init_0 rfl (lv_at hl 0 rfl) ?_
  refine W.objInit hx hb hown (hts (.methodLink RX1 3 objectInit) (by decide +kernel)) (hts (.instanceMethod objectInit) (by decide +kernel)) (hts _ (List.mem_cons_of_mem _ (List.mem_append_left _ (List.mem_of_getElem? (i := 2) rfl)))) rfl (by rw [hml]; exact hl.1) rfl dX1_init_1 (Nat.le_of_ble_eq_true rfl) (Nat.le_of_ble_eq_true rfl) ?_
  refine W.eq (g2 := F0 m 4 ls []) rfl ?_
  refine lv_aload_n hx hb dX1_init_4 rfl (lv_at hl 0 rfl) ?_
  refine lv_iload_n hx hb dX1_init_5 rfl (lv_at hl 1 rfl) ?_
  refine va_putF (D := (dC, dI)) (ci := 1) (v := .int nu) (ty := .int) (C := RX1) (T := TX1) (N := 9) hx hb hts hi1 tyX1 tyX1_ok nmX1 hown hK hP hD hS 0 rfl rfl 0 (by decide) lk9 (fun _ h9 => h9) rfl hin rfl (by decide +kernel) rfl rfl (Nat.le_of_ble_eq_true rfl) dX1_init_6 (fun H locs hP hD hS => ?_)
  have hP : va_P (dC, dI) vwCl [(q, .inr (1, [.int nu, .int 0, .int 0, .int 0, .int 0, .int 0, .int 0, .int 0, .int 0]))] H := hP
  have hD : va_D A [(q, .inr (1, [.int nu, .int 0, .int 0, .int 0, .int 0, .int 0, .int 0, .int 0, .int 0]))] := hD
  refine lv_aload_n hx hb dX1_init_9 rfl (lv_at hl 0 rfl) ?_
  refine lv_iload_n hx hb dX1_init_10 rfl (lv_at hl 2 rfl) ?_
  refine va_putF (D := (dC, dI)) (ci := 1) (v := .int kd) (ty := .int) (C := RX1) (T := TX1) (N := 9) hx hb hts hi1 tyX1 tyX1_ok nmX1 hown hK hP hD hS 0 rfl rfl 1 (by decide) lk15 (fun _ h9 => h9) rfl hin rfl (by decide +kernel) rfl rfl (Nat.le_of_ble_eq_true rfl) dX1_init_11 (fun H locs hP hD hS => ?_)
  have hP : va_P (dC, dI) vwCl [(q, .inr (1, [.int nu, .int kd, .int 0, .int 0, .int 0, .int 0, .int 0, .int 0, .int 0]))] H := hP
  have hD : va_D A [(q, .inr (1, [.int nu, .int kd, .int 0, .int 0, .int 0, .int 0, .int 0, .int 0, .int 0]))] := hD
  refine lv_aload_n hx hb dX1_init_14 rfl (lv_at hl 0 rfl) ?_
  refine lv_iload_n hx hb dX1_init_15 rfl (lv_at hl 3 rfl) ?_
  refine va_putF (D := (dC, dI)) (ci := 1) (v := .int ar) (ty := .int) (C := RX1) (T := TX1) (N := 9) hx hb hts hi1 tyX1 tyX1_ok nmX1 hown hK hP hD hS 0 rfl rfl 2 (by decide) lk18 (fun _ h9 => h9) rfl hin rfl (by decide +kernel) rfl rfl (Nat.le_of_ble_eq_true rfl) dX1_init_16 (fun H locs hP hD hS => ?_)
  have hP : va_P (dC, dI) vwCl [(q, .inr (1, [.int nu, .int kd, .int ar, .int 0, .int 0, .int 0, .int 0, .int 0, .int 0]))] H := hP
  have hD : va_D A [(q, .inr (1, [.int nu, .int kd, .int ar, .int 0, .int 0, .int 0, .int 0, .int 0, .int 0]))] := hD
  refine lv_aload_n hx hb dX1_init_19 rfl (lv_at hl 0 rfl) ?_
  refine lv_iload hx hb dX1_init_20 (lv_at hl 4 rfl) ?_
  refine va_put (D := (dC, dI)) (ci := 1) (v := .int wt) (ty := .int) (C := RX1) (T := TX1) (N := 9) hx hb hts hi1 tyX1 tyX1_ok nmX1 hown hK hP hD hS 0 rfl rfl 3 (by decide) lk21 (fun _ h9 => h9) rfl (by decide +kernel) rfl rfl (Nat.le_of_ble_eq_true rfl) dX1_init_22 (fun H locs hP hD hS => ?_)
  have hP : va_P (dC, dI) vwCl [(q, .inr (1, [.int nu, .int kd, .int ar, .int wt, .int 0, .int 0, .int 0, .int 0, .int 0]))] H := hP
  have hD : va_D A [(q, .inr (1, [.int nu, .int kd, .int ar, .int wt, .int 0, .int 0, .int 0, .int 0, .int 0]))] := hD
  refine lv_aload_n hx hb dX1_init_25 rfl (lv_at hl 0 rfl) ?_
  refine lv_iconst (v := (-1)) hx hb dX1_init_26 (by decide) ?_
  refine va_put (D := (dC, dI)) (ci := 1) (v := .int (-1)) (ty := .int) (C := RX1) (T := TX1) (N := 9) hx hb hts hi1 tyX1 tyX1_ok nmX1 hown hK hP hD hS 0 rfl rfl 6 (by decide) lk24 (fun _ h9 => h9) rfl (by decide +kernel) rfl rfl (Nat.le_of_ble_eq_true rfl) dX1_init_27 (fun H locs hP hD hS => ?_)
  have hP : va_P (dC, dI) vwCl [(q, .inr (1, [.int nu, .int kd, .int ar, .int wt, .int 0, .int 0, .int (-1), .int 0, .int 0]))] H := hP
  have hD : va_D A [(q, .inr (1, [.int nu, .int kd, .int ar, .int wt, .int 0, .int 0, .int (-1), .int 0, .int 0]))] := hD
  refine lv_aload_n hx hb dX1_init_30 rfl (lv_at hl 0 rfl) ?_
  refine lv_iconst (v := (-1)) hx hb dX1_init_31 (by decide) ?_
  refine va_put (D := (dC, dI)) (ci := 1) (v := .int (-1)) (ty := .int) (C := RX1) (T := TX1) (N := 9) hx hb hts hi1 tyX1 tyX1_ok nmX1 hown hK hP hD hS 0 rfl rfl 7 (by decide) lk27 (fun _ h9 => h9) rfl (by decide +kernel) rfl rfl (Nat.le_of_ble_eq_true rfl) dX1_init_32 (fun H locs hP hD hS => ?_)
  have hP : va_P (dC, dI) vwCl [(q, .inr (1, [.int nu, .int kd, .int ar, .int wt, .int 0, .int 0, .int (-1), .int (-1), .int 0]))] H := hP
  have hD : va_D A [(q, .inr (1, [.int nu, .int kd, .int ar, .int wt, .int 0, .int 0, .int (-1), .int (-1), .int 0]))] := hD
  exact W.vret hx hb hr (fun t ht hW => ⟨⟨(), rfl, trivial, by show va_P _ _ _ t.heap; rw [ht]; exact hP⟩, hS.F ht⟩) hS.2.2 dX1_init_35

set_option maxHeartbeats 4000000 in
set_option maxRecDepth 100000 in
theorem c_X0_init (l : Launch) (dC : Nat → ClassId) (dI : Nat → Nat → Nat) (sz : Nat) (q : Nat) (sk : Int32) : Met l yX0_init wsX0_init ({ frames := 1, cells := 0, slots := 0, locals := 12 }) (va_Pc [.ref q, .int sk] (PWr dC dI [] ([(q, .inr (0, [.int 0, .null]))]) sz)) (va_Qv (fun _ : Unit => True) (fun _ t => va_P (dC, dI) vwCl [(q, .inr (0, [.int sk, .null]))] t.heap) (va_A ([(q, .inr (0, [.int 0, .null]))]) sz)) 0 0 (va_A ([(q, .inr (0, [.int 0, .null]))]) sz) := by
  refine Met.ofW (cc := cX0_init) (maxL := 2) (ret := none) (by decide) rfl ?_
  intro p e s m args below meth c s₁ B hml hv
  obtain ⟨rfl, hsz, hP, hK, hD0, hE, hH⟩ := hv
  have hx := B.exec
  have hb := B.bytes
  have hr := B.returns
  have hts := atoms_spec (ws := wsX0_init) B.pre
  have hown : s.vm.findClass RX0 = some m.cls := findClass_of_methodNamed B.named
  have hlocks := B.notSynchronized
  have hin : meth.name = "<init>" := (name_of_methodNamed B.named B.method).1
  have hi0 : ∀ w ∈ u_ws RX0 TX0 2, w ∈ wsX0_init := by decide +kernel
  have lk7 := hts (.fieldLink RX0 7 "Windlane$Borrower" "skill" "I") (by decide +kernel)
  subst hsz
  have hD := hD0.self (sz := s.heap.size)
  generalize hAe : va_A ([(q, .inr (0, [.int 0, .null]))]) s.heap.size = A at hD hH ⊢
  have hA : ∀ q : Nat, s.heap.size ≤ q → A q := fun q h => by rw [← hAe]; exact Or.inr h
  have hS : va_S A s.heap s.heap [] := va_S.rf
  have hP : va_P (dC, dI) vwCl ([(q, .inr (0, [.int 0, .null]))]) s.heap := hP
  have hl := lv_entry ([.ref q, .int sk]) (n := 2) (Nat.le_of_ble_eq_true rfl)
  rw [lg_entry_eq]
  generalize (lg_sl ([.ref q, .int sk]) ++ List.replicate (2 - (lg_sl ([.ref q, .int sk])).length) Slot.unset).toArray = ls at hl ⊢
  have hl : lv_has ls 2 [(0, .ref q), (1, .int sk)] := hl
  refine lv_aload_n hx hb dX0_init_0 rfl (lv_at hl 0 rfl) ?_
  refine W.objInit hx hb hown (hts (.methodLink RX0 1 objectInit) (by decide +kernel)) (hts (.instanceMethod objectInit) (by decide +kernel)) (hts _ (List.mem_cons_of_mem _ (List.mem_append_left _ (List.mem_of_getElem? (i := 2) rfl)))) rfl (by rw [hml]; exact hl.1) rfl dX0_init_1 (Nat.le_of_ble_eq_true rfl) (Nat.le_of_ble_eq_true rfl) ?_
  refine W.eq (g2 := F0 m 4 ls []) rfl ?_
  refine lv_aload_n hx hb dX0_init_4 rfl (lv_at hl 0 rfl) ?_
  refine lv_iload_n hx hb dX0_init_5 rfl (lv_at hl 1 rfl) ?_
  refine va_putF (D := (dC, dI)) (ci := 0) (v := .int sk) (ty := .int) (C := RX0) (T := TX0) (N := 2) hx hb hts hi0 tyX0 tyX0_ok nmX0 hown hK hP hD hS 0 rfl rfl 0 (by decide) lk7 (fun _ h9 => h9) rfl hin rfl (by decide +kernel) rfl rfl (Nat.le_of_ble_eq_true rfl) dX0_init_6 (fun H locs hP hD hS => ?_)
  have hP : va_P (dC, dI) vwCl [(q, .inr (0, [.int sk, .null]))] H := hP
  have hD : va_D A [(q, .inr (0, [.int sk, .null]))] := hD
  exact W.vret hx hb hr (fun t ht hW => ⟨⟨(), rfl, trivial, by show va_P _ _ _ t.heap; rw [ht]; exact hP⟩, hS.F ht⟩) hS.2.2 dX0_init_9

set_option maxHeartbeats 4000000 in
set_option maxRecDepth 100000 in
theorem c_X0_canTake (l : Launch) (dC : Nat → ClassId) (dI : Nat → Nat → Nat) (b q k : Nat) (F : Rows) (sk : Int32) (o : Option Nat) : Met l yX0_canTake wsX0_canTake ({ frames := 0, cells := 0, slots := 0, locals := 0 }) (va_Pc [.ref b, .ref q] (PRo dC dI [] [(b, .inr (0, [.int sk, va_rf o])), (q, kE F k)])) (vp_Si (fun r9 => r9 = bi (o = none ∧ F 0 k < sk))) 0 0 (fun _ => False) := by
  refine Met.ofW (cc := cX0_canTake) (maxL := 2) (ret := (some .boolean)) (by decide) rfl ?_
  intro p e s m args below meth c s₁ B hml hv
  obtain ⟨rfl, hP, hK, hE⟩ := hv
  have hx := B.exec
  have hb := B.bytes
  have hr := B.returns
  have hts := atoms_spec (ws := wsX0_canTake) B.pre
  have hown : s.vm.findClass RX0 = some m.cls := findClass_of_methodNamed B.named
  have hlocks := B.notSynchronized
  have hP : va_P (dC, dI) vwCl [(b, .inr (0, [.int sk, va_rf o])), (q, kE F k)] s.heap := hP
  have hi0 : ∀ w ∈ u_ws RX0 TX0 2, w ∈ wsX0_canTake := by decide +kernel
  have hi1 : ∀ w ∈ u_ws RX1 TX1 9, w ∈ wsX0_canTake := by decide +kernel
  have lk7 := hts (.fieldLink RX0 7 "Windlane$Borrower" "skill" "I") (by decide +kernel)
  have lk13 := hts (.fieldLink RX0 13 "Windlane$Borrower" "held" "LWindlane$Kite;") (by decide +kernel)
  have lk17 := hts (.fieldLink RX0 17 "Windlane$Kite" "kind" "I") (by decide +kernel)
  have hl := lv_entry ([.ref b, .ref q]) (n := 2) (Nat.le_of_ble_eq_true rfl)
  rw [lg_entry_eq]
  generalize (lg_sl ([.ref b, .ref q]) ++ List.replicate (2 - (lg_sl ([.ref b, .ref q])).length) Slot.unset).toArray = ls at hl ⊢
  have hl : lv_has ls 2 [(0, .ref b), (1, .ref q)] := hl
  rcases o with _ | a
  · skip
    refine lv_aload_n hx hb dX0_canTake_0 rfl (lv_at hl 0 rfl) ?_
    refine va_get (D := (dC, dI)) (ci := 0) (v := .null) (C := RX0) (T := TX0) (N := 2) hx hb hts hi0 hown hK hP 0 rfl rfl 1 (by decide) lk13 (fun _ h9 => h9) rfl dX0_canTake_1 ?_
    refine lv_ifnonnullN hx hb dX0_canTake_4 ?_
    refine lv_aload_n hx hb dX0_canTake_7 rfl (lv_at hl 0 rfl) ?_
    refine va_get (D := (dC, dI)) (ci := 0) (v := .int sk) (C := RX0) (T := TX0) (N := 2) hx hb hts hi0 hown hK hP 0 rfl rfl 0 (by decide) lk7 (fun _ h9 => h9) rfl dX0_canTake_8 ?_
    refine lv_aload_n hx hb dX0_canTake_11 rfl (lv_at hl 1 rfl) ?_
    refine va_get (D := (dC, dI)) (ci := 1) (v := .int (F 0 k)) (C := RX1) (T := TX1) (N := 9) hx hb hts hi1 hown hK hP 1 rfl rfl 1 (by decide) lk17 (fun _ h9 => h9) rfl dX0_canTake_12 ?_
    refine lv_icmp_le (tgt := 22) hx hb dX0_canTake_15 (by decide) (fun c_15 => ?_) (fun c_15 => ?_)
    · skip
      refine lv_iconst (v := 0) hx hb dX0_canTake_22 (by decide) ?_
      exact W.zret (v := 0) hx hb hr rfl (fun t ht _ => ⟨_, rfl, (bi_f (fun h => by have h2 := h.2; rw [i32_lt] at h2; rw [i32_le] at c_15; omega)).symm, ht⟩) (fun q hq => absurd hq List.not_mem_nil) dX0_canTake_23
    · skip
      refine lv_iconst (v := 1) hx hb dX0_canTake_18 (by decide) ?_
      refine lv_goto (tgt := 23) hx hb dX0_canTake_19 (by decide) ?_
      exact W.zret (v := 1) hx hb hr rfl (fun t ht _ => ⟨_, rfl, (bi_t ⟨rfl, by rw [i32_lt]; rw [i32_le] at c_15; omega⟩).symm, ht⟩) (fun q hq => absurd hq List.not_mem_nil) dX0_canTake_23
  · skip
    refine lv_aload_n hx hb dX0_canTake_0 rfl (lv_at hl 0 rfl) ?_
    refine va_get (D := (dC, dI)) (ci := 0) (v := .ref a) (C := RX0) (T := TX0) (N := 2) hx hb hts hi0 hown hK hP 0 rfl rfl 1 (by decide) lk13 (fun _ h9 => h9) rfl dX0_canTake_1 ?_
    refine lv_ifnonnull (tgt := 22) hx hb dX0_canTake_4 (by decide) ?_
    refine lv_iconst (v := 0) hx hb dX0_canTake_22 (by decide) ?_
    exact W.zret (v := 0) hx hb hr rfl (fun t ht _ => ⟨_, rfl, (bi_f (fun h => by cases h.1)).symm, ht⟩) (fun q hq => absurd hq List.not_mem_nil) dX0_canTake_23
end
section
/-! ===== more rows: calls that answer or throw and leave the heap's old cells alone ===== -/
section MX
variable {p : Program} {l : Launch} {e : Env} {R : Room} {s : State} {m : MethodId} {args : Array Value} {below : List Frame} {meth : Method} {c : Code} {H : Heap} {locs : List Loc} {cells slots : Nat} {Q : State → Prop}
variable {mc ms : Nat} {a : Array Value} {pc : Nat} {ls : Array Slot} {st0 rest : List Value}
theorem my_callXq {post : Option Nat → Prop} {BE : String → Prop} (hr : vx_Run p l e R s m args below meth c H locs cells slots mc ms (F0 m pc ls st0) rest (va_Sq post a) (vx_X (fun _ : Unit => True) (fun E _ _ => BE E) (fun _ => False)) (fun _ => False))
    (kx : ∀ (E : String) (ce : Cell) (q9 : Addr) (H1 : Heap), BE E → H.size ≤ H1.size → (∀ q : Nat, q < H.size → H1[q]? = H[q]?) → H1[q9]? = some ce → ce.vm = .none → s.vm.findClass E = some ce.cls → vx_W p l e R s m args below meth c H1 locs (cells + mc) (slots + ms) Q (F0 m pc ls rest) q9)
    (kk : ∀ r : Option Nat, post r → W p l e R s m args below meth c H locs (cells + mc) (slots + ms) Q (F0 m (pc + 3) ls (va_rf r :: rest))) : W p l e R s m args below meth c H locs cells slots Q (F0 m pc ls st0) := by
  intro T hT X
  rcases hr T hT X with ⟨v, st₀, t, T', L, h0, X', hL, e1, e2, ⟨r, hv, hp, hh⟩, st⟩ | ⟨q, st₀, t, T', L, E, ce, h0, X', hL, e1, e2, ⟨u, hp, hb, hz, hk⟩, hce, hcv, hcl, st⟩
  · cases hv
    obtain ⟨t2, a1, b1⟩ := kk r hp T' (by rw [e1, hh, h0]) (Stand.forget X' (fun q h => (hL q h).elim))
    exact ⟨t2, st t2 a1, b1⟩
  · rw [h0] at hz hk
    obtain ⟨t2, a1, b1⟩ := kx E ce q t.heap hb hz (fun q h => hk q h (fun z => z)) hce hcv hcl T' e1 (Stand.forget X' (fun q h => (hL q h).elim))
    exact ⟨t2, st.trans a1, b1⟩
theorem my_callXi {post : Int32 → Prop} {BE : String → Prop} (hr : vx_Run p l e R s m args below meth c H locs cells slots mc ms (F0 m pc ls st0) rest (vp_Si post a) (vx_X (fun _ : Unit => True) (fun E _ _ => BE E) (fun _ => False)) (fun _ => False))
    (kx : ∀ (E : String) (ce : Cell) (q9 : Addr) (H1 : Heap), BE E → H.size ≤ H1.size → (∀ q : Nat, q < H.size → H1[q]? = H[q]?) → H1[q9]? = some ce → ce.vm = .none → s.vm.findClass E = some ce.cls → vx_W p l e R s m args below meth c H1 locs (cells + mc) (slots + ms) Q (F0 m pc ls rest) q9)
    (kk : ∀ r : Int32, post r → W p l e R s m args below meth c H locs (cells + mc) (slots + ms) Q (F0 m (pc + 3) ls (.int r :: rest))) : W p l e R s m args below meth c H locs cells slots Q (F0 m pc ls st0) := by
  intro T hT X
  rcases hr T hT X with ⟨v, st₀, t, T', L, h0, X', hL, e1, e2, ⟨r, hv, hp, hh⟩, st⟩ | ⟨q, st₀, t, T', L, E, ce, h0, X', hL, e1, e2, ⟨u, hp, hb, hz, hk⟩, hce, hcv, hcl, st⟩
  · cases hv
    obtain ⟨t2, a1, b1⟩ := kk r hp T' (by rw [e1, hh, h0]) (Stand.forget X' (fun q h => (hL q h).elim))
    exact ⟨t2, st t2 a1, b1⟩
  · rw [h0] at hz hk
    obtain ⟨t2, a1, b1⟩ := kx E ce q t.heap hb hz (fun q h => hk q h (fun z => z)) hce hcv hcl T' e1 (Stand.forget X' (fun q h => (hL q h).elim))
    exact ⟨t2, st.trans a1, b1⟩
end MX
theorem D_same {A : Nat → Prop} {w1 w2 : va_W} (h : va_D A w1) (e : w2.map Prod.fst = w1.map Prod.fst) : va_D A w2 := by
  have key : ∀ (k : Nat) (q : Nat × va_E), w2[k]? = some q → ∃ q0, w1[k]? = some q0 ∧ q0.1 = q.1 := by
    intro k q hk
    have h1 : (w2.map Prod.fst)[k]? = some q.1 := by rw [List.getElem?_map, hk]; rfl
    rw [e, List.getElem?_map] at h1
    cases h2 : w1[k]? with
    | none => rw [h2] at h1; cases h1
    | some q0 => rw [h2] at h1; exact ⟨q0, rfl, Option.some.inj h1⟩
  refine ⟨fun i j x y hi hj hxy => ?_, fun k q hk => ?_⟩
  · obtain ⟨x0, a1, a2⟩ := key i x hi
    obtain ⟨y0, b1, b2⟩ := key j y hj
    exact h.1 i j x0 y0 a1 b1 (a2.trans (hxy.trans b2.symm))
  · obtain ⟨q0, a1, a2⟩ := key k q hk
    rw [← a2]
    exact h.2 k q0 a1
theorem cG_D {A : Nat → Prop} {cK cB : ClassId} {h ak ab af : Nat} {ka kb : Nat → Nat} {n p : Nat} {F F' : Rows} {fl hb fl' hb' : Nat → Option Nat} (hD : va_D A (cG cK cB h ak ab af ka kb n p F fl hb)) : va_D A (cG cK cB h ak ab af ka kb n p F' fl' hb') := by
  refine D_same hD ?_
  simp [kL, bL, List.map_map, Function.comp_def]
theorem two_P {D : va_G} {cl : List vw_C} {ws : va_W} {H : Heap} {i j : Nat} {q r : Nat × va_E} (h : va_P D cl ws H) (hi : ws[i]? = some q) (hj : ws[j]? = some r) : va_P D cl [q, r] H := (one_P h hi).app (one_P h hj)
/-! sums that stay small -/
theorem i32_add {x y : Int32} (h1 : -2147483648 ≤ x.toInt + y.toInt) (h2 : x.toInt + y.toInt < 2147483648) : (x + y).toInt = x.toInt + y.toInt := by
  rw [Int32.toInt_add]
  exact Int.bmod_eq_of_le (by omega) (by omega)
theorem i32_sub {x y : Int32} (h1 : -2147483648 ≤ x.toInt - y.toInt) (h2 : x.toInt - y.toInt < 2147483648) : (x - y).toInt = x.toInt - y.toInt := by
  rw [Int32.toInt_sub]
  exact Int.bmod_eq_of_le (by omega) (by omega)
theorem st_ok {F : Rows} {k : Nat} {sp : Int32} (h : held F k sp) : ¬ 1000 + pl F k sp ≤ 0 := by
  obtain ⟨h1, h2⟩ := h
  rw [i32_le] at h1 h2
  have e1 : (100 : Int32).toInt = 100 := by decide
  have e2 : (6000 : Int32).toInt = 6000 := by decide
  have e3 : (1000 : Int32).toInt = 1000 := by decide
  have e4 : (0 : Int32).toInt = 0 := by decide
  rw [i32_le, i32_add (by omega) (by omega)]
  omega
end
section
set_option maxHeartbeats 4000000 in
set_option maxRecDepth 100000 in
theorem c_X2_kiteAt (l : Launch) (hlt : l.stackTraces = false) (dC : Nat → ClassId) (dI : Nat → Nat → Nat) (sz : Nat) {tK tB : ClassId} (h ak ab af : Nat) (ka kb : Nat → Nat) (n p : Nat) (F : Rows) (x : Int32) (hn8 : n ≤ 8) : vx_Met l yX2_kiteAt wsX2_kiteAt ({ frames := 6, cells := 1, slots := 6, locals := 82 }) (va_Pc [.ref h, .int x] (PWr dC dI [(tK, .object "Windlane$Kite"), (tB, .object "Windlane$Borrower")] (cW tK tB h ak ab af ka kb n p F) sz)) (va_Sq (fun o9 => ∃ k, k < n ∧ x = nI k ∧ o9 = some (ka k))) (vx_X (fun _ : Unit => True) (fun E _ _ => E = "java/lang/IndexOutOfBoundsException" ∧ ¬ inR n x) (fun _ => False)) 1 6 (fun _ => False) := by
  refine vx_ofW (cc := cX2_kiteAt) (maxL := 3) (ret := (some (.object "Windlane$Kite"))) (by decide) rfl ?_
  intro p9 e s m args below meth c s₁ B hml hout hv
  obtain ⟨rfl, hsz, hP, hK, hD0, hE, hH⟩ := hv
  have hx := B.exec
  have hb := B.bytes
  have hr := B.returns
  have hts := atoms_spec (ws := wsX2_kiteAt) B.pre
  have hown : s.vm.findClass RX2 = some m.cls := findClass_of_methodNamed B.named
  have hlocks := B.notSynchronized
  have hi2 : ∀ w ∈ u_ws RX2 TX2 9, w ∈ wsX2_kiteAt := by decide +kernel
  have lk11 := hts (.fieldLink RX2 11 "Windlane" "kites" "[LWindlane$Kite;") (by decide +kernel)
  subst hsz
  have hD := hD0.self (sz := s.heap.size)
  obtain ⟨A, hAe⟩ : ∃ A, A = va_A (cW tK tB h ak ab af ka kb n p F) s.heap.size := ⟨_, rfl⟩
  rw [← hAe] at hD hH
  have hA : ∀ q : Nat, s.heap.size ≤ q → A q := fun q h => by rw [hAe]; exact Or.inr h
  have hS : va_S A s.heap s.heap [] := va_S.rf
  have hP : va_P (dC, dI) vwCl (cW tK tB h ak ab af ka kb n p F) s.heap := hP
  have hl := lv_entry ([.ref h, .int x]) (n := 3) (Nat.le_of_ble_eq_true rfl)
  rw [lg_entry_eq]
  generalize (lg_sl ([.ref h, .int x]) ++ List.replicate (3 - (lg_sl ([.ref h, .int x])).length) Slot.unset).toArray = ls at hl ⊢
  have hl : lv_has ls 3 [(0, .ref h), (1, .int x)] := hl
  rcases inR_cases 8 x with ⟨k, hk8, rfl⟩ | hno
  · skip
    refine lv_iload_n hx hb dX2_kiteAt_0 rfl (lv_at hl 1 rfl) ?_
    refine lv_iconst (v := 0) hx hb dX2_kiteAt_1 (by decide) ?_
    refine lv_bipush (v := 7) hx hb dX2_kiteAt_2 (by decide) ?_
    refine vp_callSi (va_Run.run (va_runS (As := [.int (nI k), .int 0, .int 7]) (rest := []) ⟨hx, hb, hml, hown, hts⟩ (c_X2_isWithin l (nI k) 0 7) (va_cwS 3 hts gX2_kiteAt_X2_isWithin rfl rfl rfl (by decide +kernel) ⟨Nat.le_of_ble_eq_true rfl, Nat.le_of_ble_eq_true rfl⟩) ⟨fun a U g mk q => q, fun U hU hW => ⟨rfl, trivial⟩⟩ rfl rfl hl.1 rfl (lv_room (Nat.le_of_ble_eq_true rfl)) dX2_kiteAt_4 ⟨Nat.le_of_ble_eq_true rfl, Nat.le_of_ble_eq_true rfl⟩)) (fun r hr => ?_)
    subst hr
    refine lv_if_eq (tgt := 19) hx hb dX2_kiteAt_7 (by decide) (fun c_7 => absurd c_7 (bi_nz.mpr ((inR_lit (n := 8) (by decide) _).mpr (inR_nI hk8 (by decide))))) (fun _ => ?_)
    refine lv_aload_n hx hb dX2_kiteAt_10 rfl (lv_at hl 0 rfl) ?_
    refine va_get (D := (dC, dI)) (ci := 2) (v := .ref ak) (C := RX2) (T := TX2) (N := 9) hx hb hts hi2 hown hK hP 0 rfl rfl 0 (by decide) lk11 (fun _ h9 => h9) rfl dX2_kiteAt_11 ?_
    refine lv_iload_n hx hb dX2_kiteAt_14 rfl (lv_at hl 1 rfl) ?_
    refine my_aldq hx hb hK hP 1 0 rfl rfl hk8 (Nat.le_of_ble_eq_true rfl) dX2_kiteAt_15 ?_
    rcases Nat.lt_or_ge k n with hkn | hkn
    · skip
      refine W_top (y := .ref (ka k)) (show va_rf (if k < n then some (ka k) else none) = _ by rw [if_pos hkn]; rfl) ?_
      refine lv_goto (tgt := 20) hx hb dX2_kiteAt_16 (by decide) ?_
      refine lv_astore_n (lv' := [(2, .ref (ka k)), (0, .ref h), (1, .int (nI k))]) hx hb dX2_kiteAt_20 rfl hl (by decide) rfl (fun ls hl => ?_)
      refine lv_aload_n hx hb dX2_kiteAt_21 rfl (lv_at hl 0 rfl) ?_
      refine lv_ifnonnull (tgt := 35) hx hb dX2_kiteAt_22 (by decide) ?_
      refine lv_aload_n hx hb dX2_kiteAt_35 rfl (lv_at hl 0 rfl) ?_
      refine vx_ret ?_
      refine W.widen (k := 1) (n := 6) (Nat.le_of_ble_eq_true rfl) (Nat.le_of_ble_eq_true rfl) ?_
      exact W.aret (v := .ref (ka k)) hx hb hr (Or.inl ⟨_, rfl⟩) (Or.inr ⟨_, rfl⟩) (fun t ht _ => ⟨some (ka k), rfl, ⟨k, hkn, rfl, rfl⟩, ht⟩) (fun z hz => absurd hz List.not_mem_nil) dX2_kiteAt_36
    · skip
      refine W_top (y := .null) (show va_rf (if k < n then some (ka k) else none) = _ by rw [if_neg (Nat.not_lt.mpr hkn)]; rfl) ?_
      refine lv_goto (tgt := 20) hx hb dX2_kiteAt_16 (by decide) ?_
      refine lv_astore_nN (lv' := [(2, .null), (0, .ref h), (1, .int (nI k))]) hx hb dX2_kiteAt_20 rfl hl (by decide) rfl (fun ls hl => ?_)
      refine lv_aload_nN hx hb dX2_kiteAt_21 rfl (lv_at hl 0 rfl) ?_
      refine lv_ifnonnullN hx hb dX2_kiteAt_22 ?_
      obtain ⟨sa, hsa⟩ := hE.2.2.2 (199, "there is no such kite") (by decide +kernel)
      exact vx_throwS (own := RX2) (cls := "java/lang/IndexOutOfBoundsException") (text := "there is no such kite") (names := ["java/lang/RuntimeException", "java/lang/Exception"]) (ik := 105) (is := 199) (ic := 109) (sa := sa) (A := A) hx hb hlt hown (by decide +kernel) (by decide +kernel) (hts (.classLink RX2 105 "java/lang/IndexOutOfBoundsException") (by decide +kernel)) (hts (.initialized "java/lang/IndexOutOfBoundsException") (by decide +kernel)) hsa (vx_hat (B := [.castable "java/lang/IndexOutOfBoundsException" "java/lang/IndexOutOfBoundsException", .declares dR, .declares dE, .declares dT]) (fun w hw => hts w (List.mem_cons_of_mem _ (List.mem_append_right _ hw))) (by decide +kernel) (vx_c (yc.use hE.2.1.2.2) (vx_c (va_Nw.use rfl hE.1.2.1) (vx_c (va_Nw.use rfl hE.1.2.2.1) (vx_c (va_Nw.use rfl hE.1.2.2.2) vx_n))))) (by decide +kernel) hH.1 hH.2 hS (hl.1.trans hml.symm) dX2_kiteAt_25 dX2_kiteAt_28 dX2_kiteAt_29 dX2_kiteAt_31 dX2_kiteAt_34 (fun x hx => (hout x hx).elim) (Nat.le_of_ble_eq_true rfl) (Nat.le_of_ble_eq_true rfl) (Nat.le_of_ble_eq_true rfl) (Nat.le_of_ble_eq_true rfl) hlocks (fun t _ h1 h2 => ⟨(), trivial, ⟨rfl, by rintro ⟨-, q⟩; rw [nI_toInt (by omega)] at q; omega⟩, h1, fun q hq _ => h2 q hq⟩) (fun z hz => absurd hz List.not_mem_nil) (Nat.le_of_ble_eq_true rfl) (Nat.le_of_ble_eq_true rfl)
  · skip
    refine lv_iload_n hx hb dX2_kiteAt_0 rfl (lv_at hl 1 rfl) ?_
    refine lv_iconst (v := 0) hx hb dX2_kiteAt_1 (by decide) ?_
    refine lv_bipush (v := 7) hx hb dX2_kiteAt_2 (by decide) ?_
    refine vp_callSi (va_Run.run (va_runS (As := [.int x, .int 0, .int 7]) (rest := []) ⟨hx, hb, hml, hown, hts⟩ (c_X2_isWithin l x 0 7) (va_cwS 3 hts gX2_kiteAt_X2_isWithin rfl rfl rfl (by decide +kernel) ⟨Nat.le_of_ble_eq_true rfl, Nat.le_of_ble_eq_true rfl⟩) ⟨fun a U g mk q => q, fun U hU hW => ⟨rfl, trivial⟩⟩ rfl rfl hl.1 rfl (lv_room (Nat.le_of_ble_eq_true rfl)) dX2_kiteAt_4 ⟨Nat.le_of_ble_eq_true rfl, Nat.le_of_ble_eq_true rfl⟩)) (fun r hr => ?_)
    subst hr
    refine lv_if_eq (tgt := 19) hx hb dX2_kiteAt_7 (by decide) (fun _ => ?_) (fun c_7 => absurd (bi_z.mpr (fun q => hno ((inR_lit (n := 8) (by decide) _).mp q))) c_7)
    refine lv_null hx hb dX2_kiteAt_19 ?_
    refine lv_astore_nN (lv' := [(2, .null), (0, .ref h), (1, .int x)]) hx hb dX2_kiteAt_20 rfl hl (by decide) rfl (fun ls hl => ?_)
    refine lv_aload_nN hx hb dX2_kiteAt_21 rfl (lv_at hl 0 rfl) ?_
    refine lv_ifnonnullN hx hb dX2_kiteAt_22 ?_
    obtain ⟨sa, hsa⟩ := hE.2.2.2 (199, "there is no such kite") (by decide +kernel)
    exact vx_throwS (own := RX2) (cls := "java/lang/IndexOutOfBoundsException") (text := "there is no such kite") (names := ["java/lang/RuntimeException", "java/lang/Exception"]) (ik := 105) (is := 199) (ic := 109) (sa := sa) (A := A) hx hb hlt hown (by decide +kernel) (by decide +kernel) (hts (.classLink RX2 105 "java/lang/IndexOutOfBoundsException") (by decide +kernel)) (hts (.initialized "java/lang/IndexOutOfBoundsException") (by decide +kernel)) hsa (vx_hat (B := [.castable "java/lang/IndexOutOfBoundsException" "java/lang/IndexOutOfBoundsException", .declares dR, .declares dE, .declares dT]) (fun w hw => hts w (List.mem_cons_of_mem _ (List.mem_append_right _ hw))) (by decide +kernel) (vx_c (yc.use hE.2.1.2.2) (vx_c (va_Nw.use rfl hE.1.2.1) (vx_c (va_Nw.use rfl hE.1.2.2.1) (vx_c (va_Nw.use rfl hE.1.2.2.2) vx_n))))) (by decide +kernel) hH.1 hH.2 hS (hl.1.trans hml.symm) dX2_kiteAt_25 dX2_kiteAt_28 dX2_kiteAt_29 dX2_kiteAt_31 dX2_kiteAt_34 (fun x hx => (hout x hx).elim) (Nat.le_of_ble_eq_true rfl) (Nat.le_of_ble_eq_true rfl) (Nat.le_of_ble_eq_true rfl) (Nat.le_of_ble_eq_true rfl) hlocks (fun t _ h1 h2 => ⟨(), trivial, ⟨rfl, fun q => hno ⟨q.1, by have := q.2; omega⟩⟩, h1, fun q hq _ => h2 q hq⟩) (fun z hz => absurd hz List.not_mem_nil) (Nat.le_of_ble_eq_true rfl) (Nat.le_of_ble_eq_true rfl)

set_option maxHeartbeats 4000000 in
set_option maxRecDepth 100000 in
theorem c_X2_borrowerAt (l : Launch) (hlt : l.stackTraces = false) (dC : Nat → ClassId) (dI : Nat → Nat → Nat) (sz : Nat) {tK tB : ClassId} (h ak ab af : Nat) (ka kb : Nat → Nat) (n p : Nat) (F : Rows) (x : Int32) (hn8 : p ≤ 8) : vx_Met l yX2_borrowerAt wsX2_borrowerAt ({ frames := 6, cells := 1, slots := 6, locals := 82 }) (va_Pc [.ref h, .int x] (PWr dC dI [(tK, .object "Windlane$Kite"), (tB, .object "Windlane$Borrower")] (cW tK tB h ak ab af ka kb n p F) sz)) (va_Sq (fun o9 => ∃ k, k < p ∧ x = nI k ∧ o9 = some (kb k))) (vx_X (fun _ : Unit => True) (fun E _ _ => E = "java/lang/IndexOutOfBoundsException" ∧ ¬ inR p x) (fun _ => False)) 1 6 (fun _ => False) := by
  refine vx_ofW (cc := cX2_borrowerAt) (maxL := 3) (ret := (some (.object "Windlane$Borrower"))) (by decide) rfl ?_
  intro p9 e s m args below meth c s₁ B hml hout hv
  obtain ⟨rfl, hsz, hP, hK, hD0, hE, hH⟩ := hv
  have hx := B.exec
  have hb := B.bytes
  have hr := B.returns
  have hts := atoms_spec (ws := wsX2_borrowerAt) B.pre
  have hown : s.vm.findClass RX2 = some m.cls := findClass_of_methodNamed B.named
  have hlocks := B.notSynchronized
  have hi2 : ∀ w ∈ u_ws RX2 TX2 9, w ∈ wsX2_borrowerAt := by decide +kernel
  have lk17 := hts (.fieldLink RX2 17 "Windlane" "borrowers" "[LWindlane$Borrower;") (by decide +kernel)
  subst hsz
  have hD := hD0.self (sz := s.heap.size)
  obtain ⟨A, hAe⟩ : ∃ A, A = va_A (cW tK tB h ak ab af ka kb n p F) s.heap.size := ⟨_, rfl⟩
  rw [← hAe] at hD hH
  have hA : ∀ q : Nat, s.heap.size ≤ q → A q := fun q h => by rw [hAe]; exact Or.inr h
  have hS : va_S A s.heap s.heap [] := va_S.rf
  have hP : va_P (dC, dI) vwCl (cW tK tB h ak ab af ka kb n p F) s.heap := hP
  have hl := lv_entry ([.ref h, .int x]) (n := 3) (Nat.le_of_ble_eq_true rfl)
  rw [lg_entry_eq]
  generalize (lg_sl ([.ref h, .int x]) ++ List.replicate (3 - (lg_sl ([.ref h, .int x])).length) Slot.unset).toArray = ls at hl ⊢
  have hl : lv_has ls 3 [(0, .ref h), (1, .int x)] := hl
  rcases inR_cases 8 x with ⟨k, hk8, rfl⟩ | hno
  · skip
    refine lv_iload_n hx hb dX2_borrowerAt_0 rfl (lv_at hl 1 rfl) ?_
    refine lv_iconst (v := 0) hx hb dX2_borrowerAt_1 (by decide) ?_
    refine lv_bipush (v := 7) hx hb dX2_borrowerAt_2 (by decide) ?_
    refine vp_callSi (va_Run.run (va_runS (As := [.int (nI k), .int 0, .int 7]) (rest := []) ⟨hx, hb, hml, hown, hts⟩ (c_X2_isWithin l (nI k) 0 7) (va_cwS 3 hts gX2_borrowerAt_X2_isWithin rfl rfl rfl (by decide +kernel) ⟨Nat.le_of_ble_eq_true rfl, Nat.le_of_ble_eq_true rfl⟩) ⟨fun a U g mk q => q, fun U hU hW => ⟨rfl, trivial⟩⟩ rfl rfl hl.1 rfl (lv_room (Nat.le_of_ble_eq_true rfl)) dX2_borrowerAt_4 ⟨Nat.le_of_ble_eq_true rfl, Nat.le_of_ble_eq_true rfl⟩)) (fun r hr => ?_)
    subst hr
    refine lv_if_eq (tgt := 19) hx hb dX2_borrowerAt_7 (by decide) (fun c_7 => absurd c_7 (bi_nz.mpr ((inR_lit (n := 8) (by decide) _).mpr (inR_nI hk8 (by decide))))) (fun _ => ?_)
    refine lv_aload_n hx hb dX2_borrowerAt_10 rfl (lv_at hl 0 rfl) ?_
    refine va_get (D := (dC, dI)) (ci := 2) (v := .ref ab) (C := RX2) (T := TX2) (N := 9) hx hb hts hi2 hown hK hP 0 rfl rfl 2 (by decide) lk17 (fun _ h9 => h9) rfl dX2_borrowerAt_11 ?_
    refine lv_iload_n hx hb dX2_borrowerAt_14 rfl (lv_at hl 1 rfl) ?_
    refine my_aldq hx hb hK hP 2 1 rfl rfl hk8 (Nat.le_of_ble_eq_true rfl) dX2_borrowerAt_15 ?_
    rcases Nat.lt_or_ge k p with hkn | hkn
    · skip
      refine W_top (y := .ref (kb k)) (show va_rf (if k < p then some (kb k) else none) = _ by rw [if_pos hkn]; rfl) ?_
      refine lv_goto (tgt := 20) hx hb dX2_borrowerAt_16 (by decide) ?_
      refine lv_astore_n (lv' := [(2, .ref (kb k)), (0, .ref h), (1, .int (nI k))]) hx hb dX2_borrowerAt_20 rfl hl (by decide) rfl (fun ls hl => ?_)
      refine lv_aload_n hx hb dX2_borrowerAt_21 rfl (lv_at hl 0 rfl) ?_
      refine lv_ifnonnull (tgt := 35) hx hb dX2_borrowerAt_22 (by decide) ?_
      refine lv_aload_n hx hb dX2_borrowerAt_35 rfl (lv_at hl 0 rfl) ?_
      refine vx_ret ?_
      refine W.widen (k := 1) (n := 6) (Nat.le_of_ble_eq_true rfl) (Nat.le_of_ble_eq_true rfl) ?_
      exact W.aret (v := .ref (kb k)) hx hb hr (Or.inl ⟨_, rfl⟩) (Or.inr ⟨_, rfl⟩) (fun t ht _ => ⟨some (kb k), rfl, ⟨k, hkn, rfl, rfl⟩, ht⟩) (fun z hz => absurd hz List.not_mem_nil) dX2_borrowerAt_36
    · skip
      refine W_top (y := .null) (show va_rf (if k < p then some (kb k) else none) = _ by rw [if_neg (Nat.not_lt.mpr hkn)]; rfl) ?_
      refine lv_goto (tgt := 20) hx hb dX2_borrowerAt_16 (by decide) ?_
      refine lv_astore_nN (lv' := [(2, .null), (0, .ref h), (1, .int (nI k))]) hx hb dX2_borrowerAt_20 rfl hl (by decide) rfl (fun ls hl => ?_)
      refine lv_aload_nN hx hb dX2_borrowerAt_21 rfl (lv_at hl 0 rfl) ?_
      refine lv_ifnonnullN hx hb dX2_borrowerAt_22 ?_
      obtain ⟨sa, hsa⟩ := hE.2.2.2 (201, "there is no such borrower") (by decide +kernel)
      exact vx_throwS (own := RX2) (cls := "java/lang/IndexOutOfBoundsException") (text := "there is no such borrower") (names := ["java/lang/RuntimeException", "java/lang/Exception"]) (ik := 105) (is := 201) (ic := 109) (sa := sa) (A := A) hx hb hlt hown (by decide +kernel) (by decide +kernel) (hts (.classLink RX2 105 "java/lang/IndexOutOfBoundsException") (by decide +kernel)) (hts (.initialized "java/lang/IndexOutOfBoundsException") (by decide +kernel)) hsa (vx_hat (B := [.castable "java/lang/IndexOutOfBoundsException" "java/lang/IndexOutOfBoundsException", .declares dR, .declares dE, .declares dT]) (fun w hw => hts w (List.mem_cons_of_mem _ (List.mem_append_right _ hw))) (by decide +kernel) (vx_c (yc.use hE.2.1.2.2) (vx_c (va_Nw.use rfl hE.1.2.1) (vx_c (va_Nw.use rfl hE.1.2.2.1) (vx_c (va_Nw.use rfl hE.1.2.2.2) vx_n))))) (by decide +kernel) hH.1 hH.2 hS (hl.1.trans hml.symm) dX2_borrowerAt_25 dX2_borrowerAt_28 dX2_borrowerAt_29 dX2_borrowerAt_31 dX2_borrowerAt_34 (fun x hx => (hout x hx).elim) (Nat.le_of_ble_eq_true rfl) (Nat.le_of_ble_eq_true rfl) (Nat.le_of_ble_eq_true rfl) (Nat.le_of_ble_eq_true rfl) hlocks (fun t _ h1 h2 => ⟨(), trivial, ⟨rfl, by rintro ⟨-, q⟩; rw [nI_toInt (by omega)] at q; omega⟩, h1, fun q hq _ => h2 q hq⟩) (fun z hz => absurd hz List.not_mem_nil) (Nat.le_of_ble_eq_true rfl) (Nat.le_of_ble_eq_true rfl)
  · skip
    refine lv_iload_n hx hb dX2_borrowerAt_0 rfl (lv_at hl 1 rfl) ?_
    refine lv_iconst (v := 0) hx hb dX2_borrowerAt_1 (by decide) ?_
    refine lv_bipush (v := 7) hx hb dX2_borrowerAt_2 (by decide) ?_
    refine vp_callSi (va_Run.run (va_runS (As := [.int x, .int 0, .int 7]) (rest := []) ⟨hx, hb, hml, hown, hts⟩ (c_X2_isWithin l x 0 7) (va_cwS 3 hts gX2_borrowerAt_X2_isWithin rfl rfl rfl (by decide +kernel) ⟨Nat.le_of_ble_eq_true rfl, Nat.le_of_ble_eq_true rfl⟩) ⟨fun a U g mk q => q, fun U hU hW => ⟨rfl, trivial⟩⟩ rfl rfl hl.1 rfl (lv_room (Nat.le_of_ble_eq_true rfl)) dX2_borrowerAt_4 ⟨Nat.le_of_ble_eq_true rfl, Nat.le_of_ble_eq_true rfl⟩)) (fun r hr => ?_)
    subst hr
    refine lv_if_eq (tgt := 19) hx hb dX2_borrowerAt_7 (by decide) (fun _ => ?_) (fun c_7 => absurd (bi_z.mpr (fun q => hno ((inR_lit (n := 8) (by decide) _).mp q))) c_7)
    refine lv_null hx hb dX2_borrowerAt_19 ?_
    refine lv_astore_nN (lv' := [(2, .null), (0, .ref h), (1, .int x)]) hx hb dX2_borrowerAt_20 rfl hl (by decide) rfl (fun ls hl => ?_)
    refine lv_aload_nN hx hb dX2_borrowerAt_21 rfl (lv_at hl 0 rfl) ?_
    refine lv_ifnonnullN hx hb dX2_borrowerAt_22 ?_
    obtain ⟨sa, hsa⟩ := hE.2.2.2 (201, "there is no such borrower") (by decide +kernel)
    exact vx_throwS (own := RX2) (cls := "java/lang/IndexOutOfBoundsException") (text := "there is no such borrower") (names := ["java/lang/RuntimeException", "java/lang/Exception"]) (ik := 105) (is := 201) (ic := 109) (sa := sa) (A := A) hx hb hlt hown (by decide +kernel) (by decide +kernel) (hts (.classLink RX2 105 "java/lang/IndexOutOfBoundsException") (by decide +kernel)) (hts (.initialized "java/lang/IndexOutOfBoundsException") (by decide +kernel)) hsa (vx_hat (B := [.castable "java/lang/IndexOutOfBoundsException" "java/lang/IndexOutOfBoundsException", .declares dR, .declares dE, .declares dT]) (fun w hw => hts w (List.mem_cons_of_mem _ (List.mem_append_right _ hw))) (by decide +kernel) (vx_c (yc.use hE.2.1.2.2) (vx_c (va_Nw.use rfl hE.1.2.1) (vx_c (va_Nw.use rfl hE.1.2.2.1) (vx_c (va_Nw.use rfl hE.1.2.2.2) vx_n))))) (by decide +kernel) hH.1 hH.2 hS (hl.1.trans hml.symm) dX2_borrowerAt_25 dX2_borrowerAt_28 dX2_borrowerAt_29 dX2_borrowerAt_31 dX2_borrowerAt_34 (fun x hx => (hout x hx).elim) (Nat.le_of_ble_eq_true rfl) (Nat.le_of_ble_eq_true rfl) (Nat.le_of_ble_eq_true rfl) (Nat.le_of_ble_eq_true rfl) hlocks (fun t _ h1 h2 => ⟨(), trivial, ⟨rfl, fun q => hno ⟨q.1, by have := q.2; omega⟩⟩, h1, fun q hq _ => h2 q hq⟩) (fun z hz => absurd hz List.not_mem_nil) (Nat.le_of_ble_eq_true rfl) (Nat.le_of_ble_eq_true rfl)
end
section
abbrev xcr (F : Rows) (n : Nat) (ln e : Int32) (l : Nat) : Prop := ∃ k, lk (F 6) n (nI l) = some k ∧ (if nI l < ln then e ≤ ed F k else ed F k ≤ e)
theorem lane_ne {F : Rows} {n l k : Nat} (hl : l < 10) (h : lk (F 6) n (nI l) = some k) : ¬ F 6 k = -1 := by
  rw [(lk_some h).2]; exact nI_m1 (by omega)

set_option maxHeartbeats 4000000 in
set_option maxRecDepth 100000 in
theorem c_X2_wouldCross (l9 : Launch) (dC : Nat → ClassId) (dI : Nat → Nat → Nat) {tK tB : ClassId} (h ak ab af : Nat) (ka kb : Nat → Nat) (n p : Nat) (F : Rows) (ln e : Int32) (hn8 : n ≤ 8) (hkd : ∀ k, k < n → F 0 k = 0 ∨ F 0 k = 1 ∨ F 0 k = 2) (hfl : ∀ k, k < n → ¬ F 6 k = -1 → held F k (F 9 0)) : Met l9 yX2_wouldCross wsX2_wouldCross ({ frames := 4, cells := 0, slots := 0, locals := 90 }) (va_Pc [.ref h, .int ln, .int e] (PRo dC dI [(tK, .object "Windlane$Kite"), (tB, .object "Windlane$Borrower")] (cW tK tB h ak ab af ka kb n p F))) (vp_Si (fun r9 => (r9 = 1 ∧ ∃ l, l < 10 ∧ xcr F n ln e l) ∨ (r9 = 0 ∧ ∀ l, l < 10 → ¬ xcr F n ln e l))) 0 0 (fun _ => False) := by
  refine Met.ofW (cc := cX2_wouldCross) (maxL := 6) (ret := (some .boolean)) (by decide) rfl ?_
  intro p9 e9 s m args below meth c s₁ B hml hv
  obtain ⟨rfl, hP, hK, hE⟩ := hv
  have hx := B.exec
  have hb := B.bytes
  have hr := B.returns
  have hts := atoms_spec (ws := wsX2_wouldCross) B.pre
  have hown : s.vm.findClass RX2 = some m.cls := findClass_of_methodNamed B.named
  have hlocks := B.notSynchronized
  have hP : va_P (dC, dI) vwCl (cW tK tB h ak ab af ka kb n p F) s.heap := hP
  have hi2 : ∀ w ∈ u_ws RX2 TX2 9, w ∈ wsX2_wouldCross := by decide +kernel
  have lk21 := hts (.fieldLink RX2 21 "Windlane" "flyers" "[LWindlane$Kite;") (by decide +kernel)
  have lk112 := hts (.fieldLink RX2 112 "Windlane" "windSpeed" "I") (by decide +kernel)
  have lk120 := hts (.fieldLink RX2 120 "Windlane" "windSide" "I") (by decide +kernel)
  have hl := lv_entry ([.ref h, .int ln, .int e]) (n := 6) (Nat.le_of_ble_eq_true rfl)
  rw [lg_entry_eq]
  generalize (lg_sl ([.ref h, .int ln, .int e]) ++ List.replicate (6 - (lg_sl ([.ref h, .int ln, .int e])).length) Slot.unset).toArray = ls at hl ⊢
  have hl : lv_has ls 6 [(0, .ref h), (1, .int ln), (2, .int e)] := hl
  refine lv_iconst (v := 0) hx hb dX2_wouldCross_0 (by decide) ?_
  refine lv_istore_n (lv' := [(3, .int 0), (0, .ref h), (1, .int ln), (2, .int e)]) hx hb dX2_wouldCross_1 rfl hl (by decide) rfl (fun ls hl => ?_)
  refine W_loopR (nL := 6) (fun l : Nat => [(3, .int (nI l)), (0, .ref h), (1, .int ln), (2, .int e)]) (fun l => l ≤ 10 ∧ ∀ l', l' < l → ¬ xcr F n ln e l') (fun l => 10 - l) ?_ 0 (⟨Nat.zero_le _, lt_0⟩) (lv_sub hl [0, 1, 2, 3] rfl)
  intro l ls hI hl ih
  have hl : lv_has ls 6 [(3, .int (nI l)), (0, .ref h), (1, .int ln), (2, .int e)] := hl
  obtain ⟨hl10, hno⟩ := hI
  refine lv_iload_n hx hb dX2_wouldCross_2 rfl (lv_at hl 0 rfl) ?_
  refine lv_bipush (v := 10) hx hb dX2_wouldCross_3 (by decide) ?_
  refine lv_icmp_ge (tgt := 64) hx hb dX2_wouldCross_5 (by decide) (fun c_5 => ?_) (fun c_5 => ?_)
  · skip
    have he : l = 10 := by have q := (nI_leI (a := 10) (b := l) (by omega) (by omega)).mp c_5; omega
    subst he
    refine lv_iconst (v := 0) hx hb dX2_wouldCross_64 (by decide) ?_
    exact W.zret (v := 0) hx hb hr rfl (fun t ht _ => ⟨_, rfl, Or.inr ⟨rfl, fun l' hl' => hno l' hl'⟩, ht⟩) (fun q hq => absurd hq List.not_mem_nil) dX2_wouldCross_65
  · skip
    have hlt : l < 10 := Nat.not_le.mp (fun q => c_5 ((nI_leI (a := 10) (b := l) (by omega) (by omega)).mpr q))
    refine lv_aload_n hx hb dX2_wouldCross_8 rfl (lv_at hl 1 rfl) ?_
    refine va_get (D := (dC, dI)) (ci := 2) (v := .ref af) (C := RX2) (T := TX2) (N := 9) hx hb hts hi2 hown hK hP 0 rfl rfl 4 (by decide) lk21 (fun _ h9 => h9) rfl dX2_wouldCross_9 ?_
    refine lv_iload_n hx hb dX2_wouldCross_12 rfl (lv_at hl 0 rfl) ?_
    refine my_aldq hx hb hK hP 3 0 rfl rfl hlt (Nat.le_of_ble_eq_true rfl) dX2_wouldCross_13 ?_
    rcases hlk : lk (F 6) n (nI l) with _ | k
    · skip
      refine W_top (y := .null) (show va_rf ((flF F n l).map ka) = _ by rw [flF_at hlt, hlk]; rfl) ?_
      refine lv_astoreN (lv' := [(4, .null), (3, .int (nI l)), (0, .ref h), (1, .int ln), (2, .int e)]) hx hb dX2_wouldCross_14 hl (by decide) rfl (fun ls hl => ?_)
      refine lv_aloadN hx hb dX2_wouldCross_16 (lv_at hl 0 rfl) ?_
      refine lv_ifnullN (tgt := 58) hx hb dX2_wouldCross_18 (by decide) ?_
      refine lv_iinc (v := nI (l + 1)) (lv' := [(3, .int (nI (l + 1))), (4, .null), (0, .ref h), (1, .int ln), (2, .int e)]) hx hb dX2_wouldCross_58 hl (k := 1) rfl (nI_1 _) (by decide) rfl (fun ls hl => ?_)
      refine lv_goto (tgt := 2) hx hb dX2_wouldCross_61 (by decide) ?_
      exact ih (l + 1) ls (by omega) (⟨by omega, lt_s hno (fun q => by obtain ⟨k, q, -⟩ := q; rw [hlk] at q; cases q)⟩) (lv_sub hl [0, 2, 3, 4] rfl)
    · skip
      refine W_top (y := .ref (ka k)) (show va_rf ((flF F n l).map ka) = _ by rw [flF_at hlt, hlk]; rfl) ?_
      have hlkn : k < n := (lk_some hlk).1
      refine lv_astore (lv' := [(4, .ref (ka k)), (3, .int (nI l)), (0, .ref h), (1, .int ln), (2, .int e)]) hx hb dX2_wouldCross_14 hl (by decide) rfl (fun ls hl => ?_)
      refine lv_aload hx hb dX2_wouldCross_16 (lv_at hl 0 rfl) ?_
      refine lv_ifnull hx hb dX2_wouldCross_18 ?_
      refine lv_aload hx hb dX2_wouldCross_21 (lv_at hl 0 rfl) ?_
      refine lv_aload_n hx hb dX2_wouldCross_23 rfl (lv_at hl 2 rfl) ?_
      refine va_get (D := (dC, dI)) (ci := 2) (v := .int (F 9 0)) (C := RX2) (T := TX2) (N := 9) hx hb hts hi2 hown hK hP 0 rfl rfl 5 (by decide) lk112 (fun _ h9 => h9) rfl dX2_wouldCross_24 ?_
      refine lv_aload_n hx hb dX2_wouldCross_27 rfl (lv_at hl 2 rfl) ?_
      refine va_get (D := (dC, dI)) (ci := 2) (v := .int (F 9 1)) (C := RX2) (T := TX2) (N := 9) hx hb hts hi2 hown hK hP 0 rfl rfl 6 (by decide) lk120 (fun _ h9 => h9) rfl dX2_wouldCross_28 ?_
      have hq1 := one_P hP (cG_k hlkn)
      refine vp_callSi (va_Run.run (va_runV (As := [.int (F 9 0), .int (F 9 1)]) (rest := []) ⟨hx, hb, hml, hown, hts⟩ (c_X1_endIn l9 dC dI (ka k) k F (F 9 0) (F 9 1) (hkd k hlkn) (st_ok (hfl k hlkn (lane_ne hlt hlk)))) (cwV 2 hts gX2_wouldCross_X1_endIn rfl rfl rfl (by decide +kernel) ⟨Nat.le_of_ble_eq_true rfl, Nat.le_of_ble_eq_true rfl⟩) ⟨PRo.blind, va_recv (hK.sub (tys' := []) [] rfl) hq1 (ci := 1) (q0 := 0) rfl rfl, PRo.pre hq1 (hK.sub (tys' := []) [] rfl) hE⟩ rfl rfl hl.1 rfl (lv_room (Nat.le_of_ble_eq_true rfl)) dX2_wouldCross_31 ⟨Nat.le_of_ble_eq_true rfl, Nat.le_of_ble_eq_true rfl⟩)) (fun r hr => ?_)
      subst hr
      refine W_top (y := .int (ed F k)) (rfl) ?_
      refine lv_istore (lv' := [(5, .int (ed F k)), (4, .ref (ka k)), (3, .int (nI l)), (0, .ref h), (1, .int ln), (2, .int e)]) hx hb dX2_wouldCross_34 hl (by decide) rfl (fun ls hl => ?_)
      refine lv_iload_n hx hb dX2_wouldCross_36 rfl (lv_at hl 2 rfl) ?_
      refine lv_iload_n hx hb dX2_wouldCross_37 rfl (lv_at hl 4 rfl) ?_
      refine lv_icmp_ge (tgt := 50) hx hb dX2_wouldCross_38 (by decide) (fun c_38 => ?_) (fun c_38 => ?_)
      · skip
        refine lv_iload_n hx hb dX2_wouldCross_50 rfl (lv_at hl 5 rfl) ?_
        refine lv_iload hx hb dX2_wouldCross_51 (lv_at hl 0 rfl) ?_
        refine lv_icmp_lt (tgt := 58) hx hb dX2_wouldCross_53 (by decide) (fun c_53 => ?_) (fun c_53 => ?_)
        · skip
          refine lv_iinc (v := nI (l + 1)) (lv' := [(3, .int (nI (l + 1))), (5, .int (ed F k)), (4, .ref (ka k)), (0, .ref h), (1, .int ln), (2, .int e)]) hx hb dX2_wouldCross_58 hl (k := 2) rfl (nI_1 _) (by decide) rfl (fun ls hl => ?_)
          refine lv_goto (tgt := 2) hx hb dX2_wouldCross_61 (by decide) ?_
          exact ih (l + 1) ls (by omega) (⟨by omega, lt_s hno (fun q => by obtain ⟨k2, q1, q2⟩ := q; rw [hlk] at q1; cases q1; rw [if_neg (by rw [i32_lt]; rw [i32_le] at c_38; omega)] at q2; rw [i32_le] at q2; rw [i32_lt] at c_53; omega)⟩) (lv_sub hl [0, 3, 4, 5] rfl)
        · skip
          refine lv_iconst (v := 1) hx hb dX2_wouldCross_56 (by decide) ?_
          exact W.zret (v := 1) hx hb hr rfl (fun t ht _ => ⟨_, rfl, Or.inl ⟨rfl, l, hlt, ⟨k, hlk, by rw [if_neg (by rw [i32_lt]; rw [i32_le] at c_38; omega)]; rw [i32_le]; rw [i32_lt] at c_53; omega⟩⟩, ht⟩) (fun q hq => absurd hq List.not_mem_nil) dX2_wouldCross_57
      · skip
        refine lv_iload hx hb dX2_wouldCross_41 (lv_at hl 0 rfl) ?_
        refine lv_iload_n hx hb dX2_wouldCross_43 rfl (lv_at hl 5 rfl) ?_
        refine lv_icmp_lt (tgt := 58) hx hb dX2_wouldCross_44 (by decide) (fun c_44 => ?_) (fun c_44 => ?_)
        · skip
          refine lv_iinc (v := nI (l + 1)) (lv' := [(3, .int (nI (l + 1))), (5, .int (ed F k)), (4, .ref (ka k)), (0, .ref h), (1, .int ln), (2, .int e)]) hx hb dX2_wouldCross_58 hl (k := 2) rfl (nI_1 _) (by decide) rfl (fun ls hl => ?_)
          refine lv_goto (tgt := 2) hx hb dX2_wouldCross_61 (by decide) ?_
          exact ih (l + 1) ls (by omega) (⟨by omega, lt_s hno (fun q => by obtain ⟨k2, q1, q2⟩ := q; rw [hlk] at q1; cases q1; rw [if_pos (by rw [i32_lt]; rw [i32_le] at c_38; omega)] at q2; rw [i32_le] at q2; rw [i32_lt] at c_44; omega)⟩) (lv_sub hl [0, 3, 4, 5] rfl)
        · skip
          refine lv_goto (tgt := 56) hx hb dX2_wouldCross_47 (by decide) ?_
          refine lv_iconst (v := 1) hx hb dX2_wouldCross_56 (by decide) ?_
          exact W.zret (v := 1) hx hb hr rfl (fun t ht _ => ⟨_, rfl, Or.inl ⟨rfl, l, hlt, ⟨k, hlk, by rw [if_pos (by rw [i32_lt]; rw [i32_le] at c_38; omega)]; rw [i32_le]; rw [i32_lt] at c_44; omega⟩⟩, ht⟩) (fun q hq => absurd hq List.not_mem_nil) dX2_wouldCross_57

def wl (F : Rows) : Option Nat → Int32
  | none => -1
  | some k => F 6 k

set_option maxHeartbeats 4000000 in
set_option maxRecDepth 100000 in
theorem c_X2_weakerLaneOfFirstCrossing (l9 : Launch) (dC : Nat → ClassId) (dI : Nat → Nat → Nat) {tK tB : ClassId} (h ak ab af : Nat) (ka kb : Nat → Nat) (n p : Nat) (F : Rows)  (hn8 : n ≤ 8) (hkd : ∀ k, k < n → F 0 k = 0 ∨ F 0 k = 1 ∨ F 0 k = 2) (hfl : ∀ k, k < n → ¬ F 6 k = -1 → held F k (F 9 0)) : Met l9 yX2_weakerLaneOfFirstCrossing wsX2_weakerLaneOfFirstCrossing ({ frames := 4, cells := 0, slots := 0, locals := 90 }) (va_Pc [.ref h] (PRo dC dI [(tK, .object "Windlane$Kite"), (tB, .object "Windlane$Borrower")] (cW tK tB h ak ab af ka kb n p F))) (vp_Si (fun r9 => r9 = wl F (cK F n))) 0 0 (fun _ => False) := by
  refine Met.ofW (cc := cX2_weakerLaneOfFirstCrossing) (maxL := 5) (ret := (some .int)) (by decide) rfl ?_
  intro p9 e9 s m args below meth c s₁ B hml hv
  obtain ⟨rfl, hP, hK, hE⟩ := hv
  have hx := B.exec
  have hb := B.bytes
  have hr := B.returns
  have hts := atoms_spec (ws := wsX2_weakerLaneOfFirstCrossing) B.pre
  have hown : s.vm.findClass RX2 = some m.cls := findClass_of_methodNamed B.named
  have hlocks := B.notSynchronized
  have hP : va_P (dC, dI) vwCl (cW tK tB h ak ab af ka kb n p F) s.heap := hP
  have hi2 : ∀ w ∈ u_ws RX2 TX2 9, w ∈ wsX2_weakerLaneOfFirstCrossing := by decide +kernel
  have lk21 := hts (.fieldLink RX2 21 "Windlane" "flyers" "[LWindlane$Kite;") (by decide +kernel)
  have lk112 := hts (.fieldLink RX2 112 "Windlane" "windSpeed" "I") (by decide +kernel)
  have lk120 := hts (.fieldLink RX2 120 "Windlane" "windSide" "I") (by decide +kernel)
  have hl := lv_entry ([.ref h]) (n := 5) (Nat.le_of_ble_eq_true rfl)
  rw [lg_entry_eq]
  generalize (lg_sl ([.ref h]) ++ List.replicate (5 - (lg_sl ([.ref h])).length) Slot.unset).toArray = ls at hl ⊢
  have hl : lv_has ls 5 [(0, .ref h)] := hl
  refine lv_iconst (v := 0) hx hb dX2_weakerLaneOfFirstCrossing_0 (by decide) ?_
  refine lv_istore_n (lv' := [(1, .int 0), (0, .ref h)]) hx hb dX2_weakerLaneOfFirstCrossing_1 rfl hl (by decide) rfl (fun ls hl => ?_)
  refine W_loopR (nL := 5) (fun lo : Nat => [(1, .int (nI lo)), (0, .ref h)]) (fun lo => lo ≤ 10 ∧ ∀ l' h', l' < h' → h' < 10 → l' < lo → ¬ crs F n l' h') (fun lo => 10 - lo) ?_ 0 (⟨Nat.zero_le _, fun _ _ _ _ q => absurd q (Nat.not_lt_zero _)⟩) (lv_sub hl [0, 1] rfl)
  intro lo ls hI hl ih
  have hl : lv_has ls 5 [(1, .int (nI lo)), (0, .ref h)] := hl
  obtain ⟨hl10, hno⟩ := hI
  refine lv_iload_n hx hb dX2_weakerLaneOfFirstCrossing_2 rfl (lv_at hl 0 rfl) ?_
  refine lv_bipush (v := 10) hx hb dX2_weakerLaneOfFirstCrossing_3 (by decide) ?_
  refine lv_icmp_ge (tgt := 108) hx hb dX2_weakerLaneOfFirstCrossing_5 (by decide) (fun c_5 => ?_) (fun c_5 => ?_)
  · skip
    have he : lo = 10 := by have q := (nI_leI (a := 10) (b := lo) (by omega) (by omega)).mp c_5; omega
    subst he
    refine lv_iconst (v := (-1)) hx hb dX2_weakerLaneOfFirstCrossing_108 (by decide) ?_
    exact W.iret (v := (-1)) hx hb hr (fun t ht _ => ⟨_, rfl, by rw [cK_of (o := none) (fun l' h' q1 q2 => hno l' h' q1 q2 (by omega))]; rfl, ht⟩) (fun q hq => absurd hq List.not_mem_nil) dX2_weakerLaneOfFirstCrossing_109
  · skip
    have hlo : lo < 10 := Nat.not_le.mp (fun q => c_5 ((nI_leI (a := 10) (b := lo) (by omega) (by omega)).mpr q))
    refine lv_iload_n hx hb dX2_weakerLaneOfFirstCrossing_8 rfl (lv_at hl 0 rfl) ?_
    refine lv_iconst (v := 1) hx hb dX2_weakerLaneOfFirstCrossing_9 (by decide) ?_
    refine lv_iadd hx hb dX2_weakerLaneOfFirstCrossing_10 ?_
    refine W_top (y := .int (nI (lo + 1))) (congrArg Value.int (nI_1 lo)) ?_
    refine lv_istore_n (lv' := [(2, .int (nI (lo + 1))), (1, .int (nI lo)), (0, .ref h)]) hx hb dX2_weakerLaneOfFirstCrossing_11 rfl hl (by decide) rfl (fun ls hl => ?_)
    have ih0 := ih
    refine W_loopR (nL := 5) (fun hi : Nat => [(2, .int (nI hi)), (1, .int (nI lo)), (0, .ref h)]) (fun hi => (lo < hi ∧ hi ≤ 10) ∧ ∀ h', lo < h' → h' < hi → ¬ crs F n lo h') (fun hi => 10 - hi) ?_ (lo + 1) (⟨⟨by omega, by omega⟩, fun _ q1 q2 => by omega⟩) (lv_sub hl [0, 1, 2] rfl)
    intro hi ls hI2 hl ih
    have hl : lv_has ls 5 [(2, .int (nI hi)), (1, .int (nI lo)), (0, .ref h)] := hl
    obtain ⟨⟨hh1, hh2⟩, hni⟩ := hI2
    refine lv_iload_n hx hb dX2_weakerLaneOfFirstCrossing_12 rfl (lv_at hl 0 rfl) ?_
    refine lv_bipush (v := 10) hx hb dX2_weakerLaneOfFirstCrossing_13 (by decide) ?_
    refine lv_icmp_ge (tgt := 102) hx hb dX2_weakerLaneOfFirstCrossing_15 (by decide) (fun c_15 => ?_) (fun c_15 => ?_)
    · skip
      have he : hi = 10 := by have q := (nI_leI (a := 10) (b := hi) (by omega) (by omega)).mp c_15; omega
      have ih := ih0
      refine lv_iinc (v := nI (lo + 1)) (lv' := [(1, .int (nI (lo + 1))), (2, .int (nI hi)), (0, .ref h)]) hx hb dX2_weakerLaneOfFirstCrossing_102 hl (k := 1) rfl (nI_1 _) (by decide) rfl (fun ls hl => ?_)
      refine lv_goto (tgt := 2) hx hb dX2_weakerLaneOfFirstCrossing_105 (by decide) ?_
      have hnx : ∀ l' h', l' < h' → h' < 10 → l' < lo + 1 → ¬ crs F n l' h' := by
        intro l' h' q1 q2 q3
        rcases Nat.lt_or_ge l' lo with q | q
        · exact hno l' h' q1 q2 q
        · have e9 : l' = lo := by omega
          subst e9
          exact hni h' q1 (by omega)
      exact ih (lo + 1) ls (by omega) (⟨by omega, hnx⟩) (lv_sub hl [0, 2] rfl)
    · skip
      have hhi : hi < 10 := Nat.not_le.mp (fun q => c_15 ((nI_leI (a := 10) (b := hi) (by omega) (by omega)).mpr q))
      refine lv_aload_n hx hb dX2_weakerLaneOfFirstCrossing_18 rfl (lv_at hl 2 rfl) ?_
      refine va_get (D := (dC, dI)) (ci := 2) (v := .ref af) (C := RX2) (T := TX2) (N := 9) hx hb hts hi2 hown hK hP 0 rfl rfl 4 (by decide) lk21 (fun _ h9 => h9) rfl dX2_weakerLaneOfFirstCrossing_19 ?_
      refine lv_iload_n hx hb dX2_weakerLaneOfFirstCrossing_22 rfl (lv_at hl 1 rfl) ?_
      refine my_aldq hx hb hK hP 3 0 rfl rfl hlo (Nat.le_of_ble_eq_true rfl) dX2_weakerLaneOfFirstCrossing_23 ?_
      rcases hka : lk (F 6) n (nI lo) with _ | a
      · skip
        refine W_top (y := .null) (show va_rf ((flF F n lo).map ka) = _ by rw [flF_at hlo, hka]; rfl) ?_
        refine lv_astore_nN (lv' := [(3, .null), (2, .int (nI hi)), (1, .int (nI lo)), (0, .ref h)]) hx hb dX2_weakerLaneOfFirstCrossing_24 rfl hl (by decide) rfl (fun ls hl => ?_)
        refine lv_aload_n hx hb dX2_weakerLaneOfFirstCrossing_25 rfl (lv_at hl 3 rfl) ?_
        refine va_get (D := (dC, dI)) (ci := 2) (v := .ref af) (C := RX2) (T := TX2) (N := 9) hx hb hts hi2 hown hK hP 0 rfl rfl 4 (by decide) lk21 (fun _ h9 => h9) rfl dX2_weakerLaneOfFirstCrossing_26 ?_
        refine lv_iload_n hx hb dX2_weakerLaneOfFirstCrossing_29 rfl (lv_at hl 1 rfl) ?_
        refine my_aldq hx hb hK hP 3 0 rfl rfl hhi (Nat.le_of_ble_eq_true rfl) dX2_weakerLaneOfFirstCrossing_30 ?_
        rcases hkb : lk (F 6) n (nI hi) with _ | b
        · skip
          refine W_top (y := .null) (show va_rf ((flF F n hi).map ka) = _ by rw [flF_at hhi, hkb]; rfl) ?_
          refine lv_astoreN (lv' := [(4, .null), (3, .null), (2, .int (nI hi)), (1, .int (nI lo)), (0, .ref h)]) hx hb dX2_weakerLaneOfFirstCrossing_31 hl (by decide) rfl (fun ls hl => ?_)
          refine lv_aload_nN hx hb dX2_weakerLaneOfFirstCrossing_33 rfl (lv_at hl 1 rfl) ?_
          refine lv_ifnullN (tgt := 96) hx hb dX2_weakerLaneOfFirstCrossing_34 (by decide) ?_
          refine lv_iinc (v := nI (hi + 1)) (lv' := [(2, .int (nI (hi + 1))), (4, .null), (3, .null), (1, .int (nI lo)), (0, .ref h)]) hx hb dX2_weakerLaneOfFirstCrossing_96 hl (k := 2) rfl (nI_1 _) (by decide) rfl (fun ls hl => ?_)
          refine lv_goto (tgt := 12) hx hb dX2_weakerLaneOfFirstCrossing_99 (by decide) ?_
          have hnx : ∀ h', lo < h' → h' < hi + 1 → ¬ crs F n lo h' := by
            intro h' q1 q2
            rcases Nat.lt_or_ge h' hi with q | q
            · exact hni h' q1 q
            · have e9 : h' = hi := by omega
              subst e9
              exact (fun q => by obtain ⟨a9, b9, q1, q2, -⟩ := q; rw [hkb] at q2; cases q2)
          exact ih (hi + 1) ls (by omega) (⟨⟨by omega, by omega⟩, hnx⟩) (lv_sub hl [0, 3, 4] rfl)
        · skip
          refine W_top (y := .ref (ka b)) (show va_rf ((flF F n hi).map ka) = _ by rw [flF_at hhi, hkb]; rfl) ?_
          have hkbn : b < n := (lk_some hkb).1
          refine lv_astore (lv' := [(4, .ref (ka b)), (3, .null), (2, .int (nI hi)), (1, .int (nI lo)), (0, .ref h)]) hx hb dX2_weakerLaneOfFirstCrossing_31 hl (by decide) rfl (fun ls hl => ?_)
          refine lv_aload_nN hx hb dX2_weakerLaneOfFirstCrossing_33 rfl (lv_at hl 1 rfl) ?_
          refine lv_ifnullN (tgt := 96) hx hb dX2_weakerLaneOfFirstCrossing_34 (by decide) ?_
          refine lv_iinc (v := nI (hi + 1)) (lv' := [(2, .int (nI (hi + 1))), (4, .ref (ka b)), (3, .null), (1, .int (nI lo)), (0, .ref h)]) hx hb dX2_weakerLaneOfFirstCrossing_96 hl (k := 2) rfl (nI_1 _) (by decide) rfl (fun ls hl => ?_)
          refine lv_goto (tgt := 12) hx hb dX2_weakerLaneOfFirstCrossing_99 (by decide) ?_
          have hnx : ∀ h', lo < h' → h' < hi + 1 → ¬ crs F n lo h' := by
            intro h' q1 q2
            rcases Nat.lt_or_ge h' hi with q | q
            · exact hni h' q1 q
            · have e9 : h' = hi := by omega
              subst e9
              exact (fun q => by obtain ⟨a9, b9, q1, q2, -⟩ := q; rw [hka] at q1; cases q1)
          exact ih (hi + 1) ls (by omega) (⟨⟨by omega, by omega⟩, hnx⟩) (lv_sub hl [0, 3, 4] rfl)
      · skip
        refine W_top (y := .ref (ka a)) (show va_rf ((flF F n lo).map ka) = _ by rw [flF_at hlo, hka]; rfl) ?_
        have hkan : a < n := (lk_some hka).1
        refine lv_astore_n (lv' := [(3, .ref (ka a)), (2, .int (nI hi)), (1, .int (nI lo)), (0, .ref h)]) hx hb dX2_weakerLaneOfFirstCrossing_24 rfl hl (by decide) rfl (fun ls hl => ?_)
        refine lv_aload_n hx hb dX2_weakerLaneOfFirstCrossing_25 rfl (lv_at hl 3 rfl) ?_
        refine va_get (D := (dC, dI)) (ci := 2) (v := .ref af) (C := RX2) (T := TX2) (N := 9) hx hb hts hi2 hown hK hP 0 rfl rfl 4 (by decide) lk21 (fun _ h9 => h9) rfl dX2_weakerLaneOfFirstCrossing_26 ?_
        refine lv_iload_n hx hb dX2_weakerLaneOfFirstCrossing_29 rfl (lv_at hl 1 rfl) ?_
        refine my_aldq hx hb hK hP 3 0 rfl rfl hhi (Nat.le_of_ble_eq_true rfl) dX2_weakerLaneOfFirstCrossing_30 ?_
        rcases hkb : lk (F 6) n (nI hi) with _ | b
        · skip
          refine W_top (y := .null) (show va_rf ((flF F n hi).map ka) = _ by rw [flF_at hhi, hkb]; rfl) ?_
          refine lv_astoreN (lv' := [(4, .null), (3, .ref (ka a)), (2, .int (nI hi)), (1, .int (nI lo)), (0, .ref h)]) hx hb dX2_weakerLaneOfFirstCrossing_31 hl (by decide) rfl (fun ls hl => ?_)
          refine lv_aload_n hx hb dX2_weakerLaneOfFirstCrossing_33 rfl (lv_at hl 1 rfl) ?_
          refine lv_ifnull hx hb dX2_weakerLaneOfFirstCrossing_34 ?_
          refine lv_aloadN hx hb dX2_weakerLaneOfFirstCrossing_37 (lv_at hl 0 rfl) ?_
          refine lv_ifnullN (tgt := 96) hx hb dX2_weakerLaneOfFirstCrossing_39 (by decide) ?_
          refine lv_iinc (v := nI (hi + 1)) (lv' := [(2, .int (nI (hi + 1))), (4, .null), (3, .ref (ka a)), (1, .int (nI lo)), (0, .ref h)]) hx hb dX2_weakerLaneOfFirstCrossing_96 hl (k := 2) rfl (nI_1 _) (by decide) rfl (fun ls hl => ?_)
          refine lv_goto (tgt := 12) hx hb dX2_weakerLaneOfFirstCrossing_99 (by decide) ?_
          have hnx : ∀ h', lo < h' → h' < hi + 1 → ¬ crs F n lo h' := by
            intro h' q1 q2
            rcases Nat.lt_or_ge h' hi with q | q
            · exact hni h' q1 q
            · have e9 : h' = hi := by omega
              subst e9
              exact (fun q => by obtain ⟨a9, b9, q1, q2, -⟩ := q; rw [hkb] at q2; cases q2)
          exact ih (hi + 1) ls (by omega) (⟨⟨by omega, by omega⟩, hnx⟩) (lv_sub hl [0, 3, 4] rfl)
        · skip
          refine W_top (y := .ref (ka b)) (show va_rf ((flF F n hi).map ka) = _ by rw [flF_at hhi, hkb]; rfl) ?_
          have hkbn : b < n := (lk_some hkb).1
          refine lv_astore (lv' := [(4, .ref (ka b)), (3, .ref (ka a)), (2, .int (nI hi)), (1, .int (nI lo)), (0, .ref h)]) hx hb dX2_weakerLaneOfFirstCrossing_31 hl (by decide) rfl (fun ls hl => ?_)
          refine lv_aload_n hx hb dX2_weakerLaneOfFirstCrossing_33 rfl (lv_at hl 1 rfl) ?_
          refine lv_ifnull hx hb dX2_weakerLaneOfFirstCrossing_34 ?_
          refine lv_aload hx hb dX2_weakerLaneOfFirstCrossing_37 (lv_at hl 0 rfl) ?_
          refine lv_ifnull hx hb dX2_weakerLaneOfFirstCrossing_39 ?_
          refine lv_aload_n hx hb dX2_weakerLaneOfFirstCrossing_42 rfl (lv_at hl 1 rfl) ?_
          refine lv_aload_n hx hb dX2_weakerLaneOfFirstCrossing_43 rfl (lv_at hl 4 rfl) ?_
          refine va_get (D := (dC, dI)) (ci := 2) (v := .int (F 9 0)) (C := RX2) (T := TX2) (N := 9) hx hb hts hi2 hown hK hP 0 rfl rfl 5 (by decide) lk112 (fun _ h9 => h9) rfl dX2_weakerLaneOfFirstCrossing_44 ?_
          refine lv_aload_n hx hb dX2_weakerLaneOfFirstCrossing_47 rfl (lv_at hl 4 rfl) ?_
          refine va_get (D := (dC, dI)) (ci := 2) (v := .int (F 9 1)) (C := RX2) (T := TX2) (N := 9) hx hb hts hi2 hown hK hP 0 rfl rfl 6 (by decide) lk120 (fun _ h9 => h9) rfl dX2_weakerLaneOfFirstCrossing_48 ?_
          have hq1 := one_P hP (cG_k hkan)
          refine vp_callSi (va_Run.run (va_runV (As := [.int (F 9 0), .int (F 9 1)]) (rest := []) ⟨hx, hb, hml, hown, hts⟩ (c_X1_endIn l9 dC dI (ka a) a F (F 9 0) (F 9 1) (hkd a hkan) (st_ok (hfl a hkan (lane_ne hlo hka)))) (cwV 2 hts gX2_weakerLaneOfFirstCrossing_X1_endIn rfl rfl rfl (by decide +kernel) ⟨Nat.le_of_ble_eq_true rfl, Nat.le_of_ble_eq_true rfl⟩) ⟨PRo.blind, va_recv (hK.sub (tys' := []) [] rfl) hq1 (ci := 1) (q0 := 0) rfl rfl, PRo.pre hq1 (hK.sub (tys' := []) [] rfl) hE⟩ rfl rfl hl.1 rfl (lv_room (Nat.le_of_ble_eq_true rfl)) dX2_weakerLaneOfFirstCrossing_51 ⟨Nat.le_of_ble_eq_true rfl, Nat.le_of_ble_eq_true rfl⟩)) (fun r hr => ?_)
          subst hr
          refine W_top (y := .int (ed F a)) (rfl) ?_
          refine lv_aload hx hb dX2_weakerLaneOfFirstCrossing_54 (lv_at hl 0 rfl) ?_
          refine lv_aload_n hx hb dX2_weakerLaneOfFirstCrossing_56 rfl (lv_at hl 4 rfl) ?_
          refine va_get (D := (dC, dI)) (ci := 2) (v := .int (F 9 0)) (C := RX2) (T := TX2) (N := 9) hx hb hts hi2 hown hK hP 0 rfl rfl 5 (by decide) lk112 (fun _ h9 => h9) rfl dX2_weakerLaneOfFirstCrossing_57 ?_
          refine lv_aload_n hx hb dX2_weakerLaneOfFirstCrossing_60 rfl (lv_at hl 4 rfl) ?_
          refine va_get (D := (dC, dI)) (ci := 2) (v := .int (F 9 1)) (C := RX2) (T := TX2) (N := 9) hx hb hts hi2 hown hK hP 0 rfl rfl 6 (by decide) lk120 (fun _ h9 => h9) rfl dX2_weakerLaneOfFirstCrossing_61 ?_
          have hq1 := one_P hP (cG_k hkbn)
          refine vp_callSi (va_Run.run (va_runV (As := [.int (F 9 0), .int (F 9 1)]) (rest := [.int (ed F a)]) ⟨hx, hb, hml, hown, hts⟩ (c_X1_endIn l9 dC dI (ka b) b F (F 9 0) (F 9 1) (hkd b hkbn) (st_ok (hfl b hkbn (lane_ne hhi hkb)))) (cwV 2 hts gX2_weakerLaneOfFirstCrossing_X1_endIn rfl rfl rfl (by decide +kernel) ⟨Nat.le_of_ble_eq_true rfl, Nat.le_of_ble_eq_true rfl⟩) ⟨PRo.blind, va_recv (hK.sub (tys' := []) [] rfl) hq1 (ci := 1) (q0 := 0) rfl rfl, PRo.pre hq1 (hK.sub (tys' := []) [] rfl) hE⟩ rfl rfl hl.1 rfl (lv_room (Nat.le_of_ble_eq_true rfl)) dX2_weakerLaneOfFirstCrossing_64 ⟨Nat.le_of_ble_eq_true rfl, Nat.le_of_ble_eq_true rfl⟩)) (fun r hr => ?_)
          subst hr
          refine W_top (y := .int (ed F b)) (rfl) ?_
          refine lv_icmp_lt (tgt := 96) hx hb dX2_weakerLaneOfFirstCrossing_67 (by decide) (fun c_67 => ?_) (fun c_67 => ?_)
          · skip
            refine lv_iinc (v := nI (hi + 1)) (lv' := [(2, .int (nI (hi + 1))), (4, .ref (ka b)), (3, .ref (ka a)), (1, .int (nI lo)), (0, .ref h)]) hx hb dX2_weakerLaneOfFirstCrossing_96 hl (k := 2) rfl (nI_1 _) (by decide) rfl (fun ls hl => ?_)
            refine lv_goto (tgt := 12) hx hb dX2_weakerLaneOfFirstCrossing_99 (by decide) ?_
            have hnx : ∀ h', lo < h' → h' < hi + 1 → ¬ crs F n lo h' := by
              intro h' q1 q2
              rcases Nat.lt_or_ge h' hi with q | q
              · exact hni h' q1 q
              · have e9 : h' = hi := by omega
                subst e9
                exact (fun q => by obtain ⟨a9, b9, q1, q2, q3⟩ := q; rw [hka] at q1; rw [hkb] at q2; cases q1; cases q2; rw [i32_le] at q3; rw [i32_lt] at c_67; omega)
            exact ih (hi + 1) ls (by omega) (⟨⟨by omega, by omega⟩, hnx⟩) (lv_sub hl [0, 3, 4] rfl)
          · skip
            refine lv_aload_n hx hb dX2_weakerLaneOfFirstCrossing_70 rfl (lv_at hl 1 rfl) ?_
            refine lv_aload_n hx hb dX2_weakerLaneOfFirstCrossing_71 rfl (lv_at hl 4 rfl) ?_
            refine va_get (D := (dC, dI)) (ci := 2) (v := .int (F 9 0)) (C := RX2) (T := TX2) (N := 9) hx hb hts hi2 hown hK hP 0 rfl rfl 5 (by decide) lk112 (fun _ h9 => h9) rfl dX2_weakerLaneOfFirstCrossing_72 ?_
            have hq1 := one_P hP (cG_k hkan)
            refine vp_callSi (va_Run.run (va_runV (As := [.int (F 9 0)]) (rest := []) ⟨hx, hb, hml, hown, hts⟩ (c_X1_pullIn l9 dC dI (ka a) a F (F 9 0) (hkd a hkan)) (cwV 1 hts gX2_weakerLaneOfFirstCrossing_X1_pullIn rfl rfl rfl (by decide +kernel) ⟨Nat.le_of_ble_eq_true rfl, Nat.le_of_ble_eq_true rfl⟩) ⟨PRo.blind, va_recv (hK.sub (tys' := []) [] rfl) hq1 (ci := 1) (q0 := 0) rfl rfl, PRo.pre hq1 (hK.sub (tys' := []) [] rfl) hE⟩ rfl rfl hl.1 rfl (lv_room (Nat.le_of_ble_eq_true rfl)) dX2_weakerLaneOfFirstCrossing_75 ⟨Nat.le_of_ble_eq_true rfl, Nat.le_of_ble_eq_true rfl⟩)) (fun r hr => ?_)
            subst hr
            refine lv_aload hx hb dX2_weakerLaneOfFirstCrossing_78 (lv_at hl 0 rfl) ?_
            refine lv_aload_n hx hb dX2_weakerLaneOfFirstCrossing_80 rfl (lv_at hl 4 rfl) ?_
            refine va_get (D := (dC, dI)) (ci := 2) (v := .int (F 9 0)) (C := RX2) (T := TX2) (N := 9) hx hb hts hi2 hown hK hP 0 rfl rfl 5 (by decide) lk112 (fun _ h9 => h9) rfl dX2_weakerLaneOfFirstCrossing_81 ?_
            have hq1 := one_P hP (cG_k hkbn)
            refine vp_callSi (va_Run.run (va_runV (As := [.int (F 9 0)]) (rest := [.int (pl F a (F 9 0))]) ⟨hx, hb, hml, hown, hts⟩ (c_X1_pullIn l9 dC dI (ka b) b F (F 9 0) (hkd b hkbn)) (cwV 1 hts gX2_weakerLaneOfFirstCrossing_X1_pullIn rfl rfl rfl (by decide +kernel) ⟨Nat.le_of_ble_eq_true rfl, Nat.le_of_ble_eq_true rfl⟩) ⟨PRo.blind, va_recv (hK.sub (tys' := []) [] rfl) hq1 (ci := 1) (q0 := 0) rfl rfl, PRo.pre hq1 (hK.sub (tys' := []) [] rfl) hE⟩ rfl rfl hl.1 rfl (lv_room (Nat.le_of_ble_eq_true rfl)) dX2_weakerLaneOfFirstCrossing_84 ⟨Nat.le_of_ble_eq_true rfl, Nat.le_of_ble_eq_true rfl⟩)) (fun r hr => ?_)
            subst hr
            refine lv_icmp_ge (tgt := 94) hx hb dX2_weakerLaneOfFirstCrossing_87 (by decide) (fun c_87 => ?_) (fun c_87 => ?_)
            · skip
              refine lv_iload_n hx hb dX2_weakerLaneOfFirstCrossing_94 rfl (lv_at hl 2 rfl) ?_
              exact W.iret (v := nI hi) hx hb hr (fun t ht _ => ⟨_, rfl, by rw [cK_of (o := some b) ⟨lo, hi, a, b, by omega, hhi, hka, hkb, by rw [i32_le]; rw [i32_lt] at c_67; omega, fun l' h' q1 q2 q3 => q3.elim (fun q => hno l' h' q1 q2 q) (fun q => by obtain ⟨q4, q5⟩ := q; subst q4; exact hni h' q1 q5), (if_neg (fun q => by rw [i32_lt] at q; rw [i32_le] at c_87; omega)).symm⟩]; exact (lk_some hkb).2.symm, ht⟩) (fun q hq => absurd hq List.not_mem_nil) dX2_weakerLaneOfFirstCrossing_95
            · skip
              refine lv_iload_n hx hb dX2_weakerLaneOfFirstCrossing_90 rfl (lv_at hl 3 rfl) ?_
              refine lv_goto (tgt := 95) hx hb dX2_weakerLaneOfFirstCrossing_91 (by decide) ?_
              exact W.iret (v := nI lo) hx hb hr (fun t ht _ => ⟨_, rfl, by rw [cK_of (o := some a) ⟨lo, hi, a, b, by omega, hhi, hka, hkb, by rw [i32_le]; rw [i32_lt] at c_67; omega, fun l' h' q1 q2 q3 => q3.elim (fun q => hno l' h' q1 q2 q) (fun q => by obtain ⟨q4, q5⟩ := q; subst q4; exact hni h' q1 q5), (if_pos (by rw [i32_lt]; rw [i32_le] at c_87; omega)).symm⟩]; exact (lk_some hka).2.symm, ht⟩) (fun q hq => absurd hq List.not_mem_nil) dX2_weakerLaneOfFirstCrossing_95
end
section
theorem putk {tK tB : ClassId} {h ak ab af : Nat} {ka kb : Nat → Nat} {n p : Nat} {F : Rows} {fl hb : Nat → Option Nat} {k i : Nat} {v : Int32} {e : va_E} (hk : k < n) (hi : i < 8) (he : e = kE (up F i k v) k) : (cG tK tB h ak ab af ka kb n p F fl hb).set (k + 4) (ka k, e) = cG tK tB h ak ab af ka kb n p (up F i k v) fl hb := by rw [he]; exact cG_up hk hi
theorem putE {tK tB : ClassId} {h ak ab af : Nat} {ka kb : Nat → Nat} {n p : Nat} {F : Rows} {k i : Nat} {v : Int32} {e : va_E} (hk : k < n) (hi : i < 5) (he : e = kE (up F i k v) k) : (cW tK tB h ak ab af ka kb n p F).set (k + 4) (ka k, e) = cW tK tB h ak ab af ka kb n p (up F i k v) := by
  rw [putk hk (by omega) he]
  show _ = cG tK tB h ak ab af ka kb n p (up F i k v) (flF (up F i k v) n) (hbF (up F i k v) n)
  rw [flF_up (by omega), hbF_up (by omega)]

set_option maxHeartbeats 4000000 in
set_option maxRecDepth 100000 in
theorem c_X2_countWet (l9 : Launch) (dC : Nat → ClassId) (dI : Nat → Nat → Nat) {tK tB : ClassId} (h ak ab af : Nat) (ka kb : Nat → Nat) (n p : Nat) (F : Rows)  (hn8 : n ≤ 8) : Met l9 yX2_countWet wsX2_countWet ({ frames := 0, cells := 0, slots := 0, locals := 0 }) (va_Pc [.ref h] (PRo dC dI [(tK, .object "Windlane$Kite"), (tB, .object "Windlane$Borrower")] (cW tK tB h ak ab af ka kb n p F))) (vp_Si (fun r9 => r9 = nI (cnt (fun j => decide (0 < F 4 j)) n))) 0 0 (fun _ => False) := by
  refine Met.ofW (cc := cX2_countWet) (maxL := 6) (ret := (some .int)) (by decide) rfl ?_
  intro p9 e9 s m args below meth c s₁ B hml hv
  obtain ⟨rfl, hP, hK, hE⟩ := hv
  have hx := B.exec
  have hb := B.bytes
  have hr := B.returns
  have hts := atoms_spec (ws := wsX2_countWet) B.pre
  have hown : s.vm.findClass RX2 = some m.cls := findClass_of_methodNamed B.named
  have hlocks := B.notSynchronized
  have hP : va_P (dC, dI) vwCl (cW tK tB h ak ab af ka kb n p F) s.heap := hP
  have hi1 : ∀ w ∈ u_ws RX1 TX1 9, w ∈ wsX2_countWet := by decide +kernel
  have hi2 : ∀ w ∈ u_ws RX2 TX2 9, w ∈ wsX2_countWet := by decide +kernel
  have lk11 := hts (.fieldLink RX2 11 "Windlane" "kites" "[LWindlane$Kite;") (by decide +kernel)
  have lk190 := hts (.fieldLink RX2 190 "Windlane$Kite" "wetHours" "I") (by decide +kernel)
  have hl := lv_entry ([.ref h]) (n := 6) (Nat.le_of_ble_eq_true rfl)
  rw [lg_entry_eq]
  generalize (lg_sl ([.ref h]) ++ List.replicate (6 - (lg_sl ([.ref h])).length) Slot.unset).toArray = ls at hl ⊢
  have hl : lv_has ls 6 [(0, .ref h)] := hl
  refine lv_iconst (v := 0) hx hb dX2_countWet_0 (by decide) ?_
  refine lv_istore_n (lv' := [(1, .int 0), (0, .ref h)]) hx hb dX2_countWet_1 rfl hl (by decide) rfl (fun ls hl => ?_)
  refine lv_aload_n hx hb dX2_countWet_2 rfl (lv_at hl 1 rfl) ?_
  refine va_get (D := (dC, dI)) (ci := 2) (v := .ref ak) (C := RX2) (T := TX2) (N := 9) hx hb hts hi2 hown hK hP 0 rfl rfl 0 (by decide) lk11 (fun _ h9 => h9) rfl dX2_countWet_3 ?_
  refine lv_astore_n (lv' := [(2, .ref ak), (1, .int 0), (0, .ref h)]) hx hb dX2_countWet_6 rfl hl (by decide) rfl (fun ls hl => ?_)
  refine lv_aload_n hx hb dX2_countWet_7 rfl (lv_at hl 0 rfl) ?_
  refine va_alen hx hb hK hP 1 0 rfl rfl (v := nI 8) rfl dX2_countWet_8 ?_
  refine lv_istore_n (lv' := [(3, .int (nI 8)), (2, .ref ak), (1, .int 0), (0, .ref h)]) hx hb dX2_countWet_9 rfl hl (by decide) rfl (fun ls hl => ?_)
  refine lv_iconst (v := 0) hx hb dX2_countWet_10 (by decide) ?_
  refine lv_istore (lv' := [(4, .int 0), (3, .int (nI 8)), (2, .ref ak), (1, .int 0), (0, .ref h)]) hx hb dX2_countWet_11 hl (by decide) rfl (fun ls hl => ?_)
  refine W_loopR (nL := 6) (fun i : Nat => [(1, .int (nI (cnt (fun j => decide (j < n) && decide (0 < F 4 j)) i))), (4, .int (nI i)), (0, .ref h), (2, .ref ak), (3, .int (nI 8))]) (fun i => i ≤ 8) (fun i => 8 - i) ?_ 0 (Nat.zero_le _) (lv_sub hl [3, 0, 4, 2, 1] rfl)
  intro i ls hI hl ih
  have hl : lv_has ls 6 [(1, .int (nI (cnt (fun j => decide (j < n) && decide (0 < F 4 j)) i))), (4, .int (nI i)), (0, .ref h), (2, .ref ak), (3, .int (nI 8))] := hl
  refine lv_iload hx hb dX2_countWet_13 (lv_at hl 1 rfl) ?_
  refine lv_iload_n hx hb dX2_countWet_15 rfl (lv_at hl 4 rfl) ?_
  refine lv_icmp_ge (tgt := 47) hx hb dX2_countWet_16 (by decide) (fun c_16 => ?_) (fun c_16 => ?_)
  · skip
    have he : i = 8 := by have q := (nI_leI (a := 8) (b := i) (by omega) (by omega)).mp c_16; omega
    refine lv_iload_n hx hb dX2_countWet_47 rfl (lv_at hl 0 rfl) ?_
    exact W.iret (v := nI (cnt (fun j => decide (j < n) && decide (0 < F 4 j)) i)) hx hb hr (fun t ht _ => ⟨_, rfl, by rw [he]; exact congrArg nI (cnt_cut hn8), ht⟩) (fun q hq => absurd hq List.not_mem_nil) dX2_countWet_48
  · skip
    have hi : i < 8 := Nat.not_le.mp (fun q => c_16 ((nI_leI (a := 8) (b := i) (by omega) (by omega)).mpr q))
    refine lv_aload_n hx hb dX2_countWet_19 rfl (lv_at hl 3 rfl) ?_
    refine lv_iload hx hb dX2_countWet_20 (lv_at hl 1 rfl) ?_
    refine my_aldq hx hb hK hP 1 0 rfl rfl hi (Nat.le_of_ble_eq_true rfl) dX2_countWet_22 ?_
    rcases Nat.lt_or_ge i n with hin | hin
    · skip
      refine W_top (y := .ref (ka i)) (show va_rf (if i < n then some (ka i) else none) = _ by rw [if_pos hin]; rfl) ?_
      refine lv_astore (lv' := [(5, .ref (ka i)), (1, .int (nI (cnt (fun j => decide (j < n) && decide (0 < F 4 j)) i))), (4, .int (nI i)), (0, .ref h), (2, .ref ak), (3, .int (nI 8))]) hx hb dX2_countWet_23 hl (by decide) rfl (fun ls hl => ?_)
      refine lv_aload hx hb dX2_countWet_25 (lv_at hl 0 rfl) ?_
      refine lv_ifnull hx hb dX2_countWet_27 ?_
      refine lv_aload hx hb dX2_countWet_30 (lv_at hl 0 rfl) ?_
      refine va_get (D := (dC, dI)) (ci := 1) (v := .int (F 4 i)) (C := RX1) (T := TX1) (N := 9) hx hb hts hi1 hown hK hP (i + 4) (cG_k hin) rfl 5 (by decide) lk190 (fun _ h9 => h9) rfl dX2_countWet_32 ?_
      refine lv_if_le (tgt := 41) hx hb dX2_countWet_35 (by decide) (fun c_35 => ?_) (fun c_35 => ?_)
      · skip
        refine lv_iinc (v := nI (i + 1)) (lv' := [(4, .int (nI (i + 1))), (5, .ref (ka i)), (1, .int (nI (cnt (fun j => decide (j < n) && decide (0 < F 4 j)) i))), (0, .ref h), (2, .ref ak), (3, .int (nI 8))]) hx hb dX2_countWet_41 hl (k := 2) rfl (nI_1 _) (by decide) rfl (fun ls hl => ?_)
        refine lv_goto (tgt := 13) hx hb dX2_countWet_44 (by decide) ?_
        rw [show cnt (fun j => decide (j < n) && decide (0 < F 4 j)) i = cnt (fun j => decide (j < n) && decide (0 < F 4 j)) (i + 1) from (cnt_f (by have h0 : (0 : Int32).toInt = 0 := (by decide); rw [i32_le] at c_35; simp [i32_lt, hin]; omega)).symm] at hl
        exact ih (i + 1) ls (by omega) (by omega) (lv_sub hl [2, 0, 3, 4, 5] rfl)
      · skip
        rw [i32_le] at c_35
        refine lv_iinc (v := nI (cnt (fun j => decide (j < n) && decide (0 < F 4 j)) (i + 1))) (lv' := [(1, .int (nI (cnt (fun j => decide (j < n) && decide (0 < F 4 j)) (i + 1)))), (5, .ref (ka i)), (4, .int (nI i)), (0, .ref h), (2, .ref ak), (3, .int (nI 8))]) hx hb dX2_countWet_38 hl (k := 1) rfl (by have h0 : (0 : Int32).toInt = 0 := (by decide); rw [cnt_t (by simp [i32_lt, hin]; omega)]; exact nI_1 _) (by decide) rfl (fun ls hl => ?_)
        refine lv_iinc (v := nI (i + 1)) (lv' := [(4, .int (nI (i + 1))), (1, .int (nI (cnt (fun j => decide (j < n) && decide (0 < F 4 j)) (i + 1)))), (5, .ref (ka i)), (0, .ref h), (2, .ref ak), (3, .int (nI 8))]) hx hb dX2_countWet_41 hl (k := 2) rfl (nI_1 _) (by decide) rfl (fun ls hl => ?_)
        refine lv_goto (tgt := 13) hx hb dX2_countWet_44 (by decide) ?_
        exact ih (i + 1) ls (by omega) (by omega) (lv_sub hl [1, 0, 3, 4, 5] rfl)
    · skip
      refine W_top (y := .null) (show va_rf (if i < n then some (ka i) else none) = _ by rw [if_neg (Nat.not_lt.mpr hin)]; rfl) ?_
      refine lv_astoreN (lv' := [(5, .null), (1, .int (nI (cnt (fun j => decide (j < n) && decide (0 < F 4 j)) i))), (4, .int (nI i)), (0, .ref h), (2, .ref ak), (3, .int (nI 8))]) hx hb dX2_countWet_23 hl (by decide) rfl (fun ls hl => ?_)
      refine lv_aloadN hx hb dX2_countWet_25 (lv_at hl 0 rfl) ?_
      refine lv_ifnullN (tgt := 41) hx hb dX2_countWet_27 (by decide) ?_
      refine lv_iinc (v := nI (i + 1)) (lv' := [(4, .int (nI (i + 1))), (5, .null), (1, .int (nI (cnt (fun j => decide (j < n) && decide (0 < F 4 j)) i))), (0, .ref h), (2, .ref ak), (3, .int (nI 8))]) hx hb dX2_countWet_41 hl (k := 2) rfl (nI_1 _) (by decide) rfl (fun ls hl => ?_)
      refine lv_goto (tgt := 13) hx hb dX2_countWet_44 (by decide) ?_
      rw [show cnt (fun j => decide (j < n) && decide (0 < F 4 j)) i = cnt (fun j => decide (j < n) && decide (0 < F 4 j)) (i + 1) from (cnt_f (by simp; intro q; omega)).symm] at hl
      exact ih (i + 1) ls (by omega) (by omega) (lv_sub hl [2, 0, 3, 4, 5] rfl)

set_option maxHeartbeats 4000000 in
set_option maxRecDepth 100000 in
theorem c_X2_clearLane (l9 : Launch) (dC : Nat → ClassId) (dI : Nat → Nat → Nat) (sz : Nat) {tK tB : ClassId} (h ak ab af : Nat) (ka kb : Nat → Nat) (n p : Nat) (F : Rows) (l k : Nat) (hl10 : l < 10) (hlk : lk (F 6) n (nI l) = some k) (hu : uq n (F 6)) : Met l9 yX2_clearLane wsX2_clearLane ({ frames := 2, cells := 0, slots := 0, locals := 42 }) (va_Pc [.ref h, .int (nI l)] (PWr dC dI [(tK, .object "Windlane$Kite"), (tB, .object "Windlane$Borrower")] (cW tK tB h ak ab af ka kb n p F) sz)) (va_Qv (fun _ : Unit => True) (fun _ t => va_P (dC, dI) vwCl (cW tK tB h ak ab af ka kb n p (up F 6 k (-1))) t.heap) (va_A (cW tK tB h ak ab af ka kb n p F) sz)) 0 0 (va_A (cW tK tB h ak ab af ka kb n p F) sz) := by
  refine Met.ofW (cc := cX2_clearLane) (maxL := 3) (ret := none) (by decide) rfl ?_
  intro p9 e9 s m args below meth c s₁ B hml hv
  obtain ⟨rfl, hsz, hP, hK, hD0, hE, hH⟩ := hv
  have hx := B.exec
  have hb := B.bytes
  have hr := B.returns
  have hts := atoms_spec (ws := wsX2_clearLane) B.pre
  have hown : s.vm.findClass RX2 = some m.cls := findClass_of_methodNamed B.named
  have hlocks := B.notSynchronized
  have hi1 : ∀ w ∈ u_ws RX1 TX1 9, w ∈ wsX2_clearLane := by decide +kernel
  have hi2 : ∀ w ∈ u_ws RX2 TX2 9, w ∈ wsX2_clearLane := by decide +kernel
  have lk21 := hts (.fieldLink RX2 21 "Windlane" "flyers" "[LWindlane$Kite;") (by decide +kernel)
  have lk133 := hts (.fieldLink RX2 133 "Windlane$Kite" "lane" "I") (by decide +kernel)
  subst hsz
  have hD := hD0.self (sz := s.heap.size)
  generalize hAe : va_A (cW tK tB h ak ab af ka kb n p F) s.heap.size = A at hD hH ⊢
  have hA : ∀ q : Nat, s.heap.size ≤ q → A q := fun q h => by rw [← hAe]; exact Or.inr h
  have hS : va_S A s.heap s.heap [] := va_S.rf
  have hP : va_P (dC, dI) vwCl (cW tK tB h ak ab af ka kb n p F) s.heap := hP
  have hl := lv_entry ([.ref h, .int (nI l)]) (n := 3) (Nat.le_of_ble_eq_true rfl)
  rw [lg_entry_eq]
  generalize (lg_sl ([.ref h, .int (nI l)]) ++ List.replicate (3 - (lg_sl ([.ref h, .int (nI l)])).length) Slot.unset).toArray = ls at hl ⊢
  have hl : lv_has ls 3 [(0, .ref h), (1, .int (nI l))] := hl
  obtain ⟨hkn, hk6⟩ := lk_some hlk
  refine lv_iload_n hx hb dX2_clearLane_0 rfl (lv_at hl 1 rfl) ?_
  refine vp_callSi (va_Run.run (va_runS (As := [.int (nI l)]) (rest := []) ⟨hx, hb, hml, hown, hts⟩ (c_X2_isLane l9 (nI l)) (va_cwS 1 hts gX2_clearLane_X2_isLane rfl rfl rfl (by decide +kernel) ⟨Nat.le_of_ble_eq_true rfl, Nat.le_of_ble_eq_true rfl⟩) ⟨fun a U g mk q => q, fun U hU hW => ⟨rfl, trivial⟩⟩ rfl rfl hl.1 rfl (lv_room (Nat.le_of_ble_eq_true rfl)) dX2_clearLane_1 ⟨Nat.le_of_ble_eq_true rfl, Nat.le_of_ble_eq_true rfl⟩)) (fun r hr => ?_)
  subst hr
  refine lv_if_eq (tgt := 16) hx hb dX2_clearLane_4 (by decide) (fun c_4 => absurd c_4 (bi_nz.mpr (inR_nI hl10 (by decide)))) (fun _ => ?_)
  refine lv_aload_n hx hb dX2_clearLane_7 rfl (lv_at hl 0 rfl) ?_
  refine va_get (D := (dC, dI)) (ci := 2) (v := .ref af) (C := RX2) (T := TX2) (N := 9) hx hb hts hi2 hown hK hP 0 rfl rfl 4 (by decide) lk21 (fun _ h9 => h9) rfl dX2_clearLane_8 ?_
  refine lv_iload_n hx hb dX2_clearLane_11 rfl (lv_at hl 1 rfl) ?_
  refine my_aldq hx hb hK hP 3 0 rfl rfl hl10 (Nat.le_of_ble_eq_true rfl) dX2_clearLane_12 ?_
  refine W_top (y := .ref (ka k)) (show va_rf ((flF F n l).map ka) = _ by rw [flF_at hl10, hlk]; rfl) ?_
  refine lv_goto (tgt := 17) hx hb dX2_clearLane_13 (by decide) ?_
  refine lv_astore_n (lv' := [(2, .ref (ka k)), (0, .ref h), (1, .int (nI l))]) hx hb dX2_clearLane_17 rfl hl (by decide) rfl (fun ls hl => ?_)
  refine lv_aload_n hx hb dX2_clearLane_18 rfl (lv_at hl 0 rfl) ?_
  refine lv_ifnull hx hb dX2_clearLane_19 ?_
  refine lv_aload_n hx hb dX2_clearLane_22 rfl (lv_at hl 0 rfl) ?_
  refine lv_iconst (v := (-1)) hx hb dX2_clearLane_23 (by decide) ?_
  refine va_put (D := (dC, dI)) (ci := 1) (v := .int (-1)) (ty := .int) (C := RX1) (T := TX1) (N := 9) hx hb hts hi1 tyX1 tyX1_ok nmX1 hown hK hP hD hS (k + 4) (cG_k hkn) rfl 7 (by decide) lk133 (fun _ h9 => h9) rfl (by decide +kernel) rfl rfl (Nat.le_of_ble_eq_true rfl) dX2_clearLane_24 (fun H locs hP hD hS => ?_)
  have hP : va_P (dC, dI) vwCl (cG tK tB h ak ab af ka kb n p (up F 6 k (-1)) (flF F n) (hbF F n)) H := P_eq (putk (i := 6) (v := (-1)) hkn (by decide) (kE_up6 F k _)) hP
  have hD : va_D A (cG tK tB h ak ab af ka kb n p (up F 6 k (-1)) (flF F n) (hbF F n)) := D_eq (putk (i := 6) (v := (-1)) hkn (by decide) (kE_up6 F k _)) hD
  refine lv_aload_n hx hb dX2_clearLane_27 rfl (lv_at hl 1 rfl) ?_
  refine va_get (D := (dC, dI)) (ci := 2) (v := .ref af) (C := RX2) (T := TX2) (N := 9) hx hb hts hi2 hown hK hP 0 rfl rfl 4 (by decide) lk21 (fun _ h9 => h9) rfl dX2_clearLane_28 ?_
  refine lv_iload_n hx hb dX2_clearLane_31 rfl (lv_at hl 2 rfl) ?_
  refine lv_null hx hb dX2_clearLane_32 ?_
  refine my_astqN hx hb hK hP hD hS 3 0 rfl rfl hl10 (Nat.le_of_ble_eq_true rfl) dX2_clearLane_33 (fun H locs hP hD hS => ?_)
  have hP : va_P (dC, dI) vwCl (cW tK tB h ak ab af ka kb n p (up F 6 k (-1))) H := P_eq ((cG_setf (o := none)).trans (cG_flhb (flF_drop hl10 hk6 (uq_lk hu (nI_m1 (by omega)) hlk)) (fun j _ => congrFun (hbF_up (F := F) (n := n) (i := 6) (k := k) (v := -1) (by decide)).symm j))) hP
  have hD : va_D A (cW tK tB h ak ab af ka kb n p (up F 6 k (-1))) := D_eq ((cG_setf (o := none)).trans (cG_flhb (flF_drop hl10 hk6 (uq_lk hu (nI_m1 (by omega)) hlk)) (fun j _ => congrFun (hbF_up (F := F) (n := n) (i := 6) (k := k) (v := -1) (by decide)).symm j))) hD
  exact W.vret hx hb hr (fun t ht hW => ⟨⟨(), rfl, trivial, by show va_P _ _ _ t.heap; rw [ht]; exact hP⟩, hS.F ht⟩) hS.2.2 dX2_clearLane_34

set_option maxHeartbeats 4000000 in
set_option maxRecDepth 100000 in
theorem c_X2_callDown (l9 : Launch) (dC : Nat → ClassId) (dI : Nat → Nat → Nat) (sz : Nat) {tK tB : ClassId} (h ak ab af : Nat) (ka kb : Nat → Nat) (n p : Nat) (F : Rows) (l k : Nat) (hl10 : l < 10) (hlk : lk (F 6) n (nI l) = some k) (hu : uq n (F 6)) : Met l9 yX2_callDown wsX2_callDown ({ frames := 3, cells := 0, slots := 0, locals := 64 }) (va_Pc [.ref h, .int (nI l)] (PWr dC dI [(tK, .object "Windlane$Kite"), (tB, .object "Windlane$Borrower")] (cW tK tB h ak ab af ka kb n p F) sz)) (va_Qv (fun _ : Unit => True) (fun _ t => va_P (dC, dI) vwCl (cW tK tB h ak ab af ka kb n p (dn F k)) t.heap) (va_A (cW tK tB h ak ab af ka kb n p F) sz)) 0 0 (va_A (cW tK tB h ak ab af ka kb n p F) sz) := by
  refine Met.ofW (cc := cX2_callDown) (maxL := 2) (ret := none) (by decide) rfl ?_
  intro p9 e9 s m args below meth c s₁ B hml hv
  obtain ⟨rfl, hsz, hP, hK, hD0, hE, hH⟩ := hv
  have hx := B.exec
  have hb := B.bytes
  have hr := B.returns
  have hts := atoms_spec (ws := wsX2_callDown) B.pre
  have hown : s.vm.findClass RX2 = some m.cls := findClass_of_methodNamed B.named
  have hlocks := B.notSynchronized
  have hi2 : ∀ w ∈ u_ws RX2 TX2 9, w ∈ wsX2_callDown := by decide +kernel
  have lk149 := hts (.fieldLink RX2 149 "Windlane" "calledCount" "I") (by decide +kernel)
  subst hsz
  have hD := hD0.self (sz := s.heap.size)
  generalize hAe : va_A (cW tK tB h ak ab af ka kb n p F) s.heap.size = A at hD hH ⊢
  have hA : ∀ q : Nat, s.heap.size ≤ q → A q := fun q h => by rw [← hAe]; exact Or.inr h
  have hS : va_S A s.heap s.heap [] := va_S.rf
  have hP : va_P (dC, dI) vwCl (cW tK tB h ak ab af ka kb n p F) s.heap := hP
  have hl := lv_entry ([.ref h, .int (nI l)]) (n := 2) (Nat.le_of_ble_eq_true rfl)
  rw [lg_entry_eq]
  generalize (lg_sl ([.ref h, .int (nI l)]) ++ List.replicate (2 - (lg_sl ([.ref h, .int (nI l)])).length) Slot.unset).toArray = ls at hl ⊢
  have hl : lv_has ls 2 [(0, .ref h), (1, .int (nI l))] := hl
  refine lv_aload_n hx hb dX2_callDown_0 rfl (lv_at hl 0 rfl) ?_
  refine lv_iload_n hx hb dX2_callDown_1 rfl (lv_at hl 1 rfl) ?_
  refine va_callv (va_runV (As := [.int (nI l)]) (rest := []) ⟨hx, hb, hml, hown, hts⟩ (c_X2_clearLane l9 dC dI s.heap.size h ak ab af ka kb n p F l k hl10 hlk hu) (cwV 1 hts gX2_callDown_X2_clearLane rfl rfl rfl (by decide +kernel) ⟨Nat.le_of_ble_eq_true rfl, Nat.le_of_ble_eq_true rfl⟩) ⟨PWr.blind, va_recv hK hP (ci := 2) (q0 := 0) rfl rfl, PWr.pre hP hK hD hE ((hH.kept hS.2.1).narrow (A_in hD hS hA))⟩ rfl rfl hl.1 rfl (lv_room (Nat.le_of_ble_eq_true rfl)) dX2_callDown_2 ⟨Nat.le_of_ble_eq_true rfl, Nat.le_of_ble_eq_true rfl⟩) hS (fun q _ hq => A_in hD hS hA q hq) (A_in hD hS hA) (fun u9 t9 H locs ht9 hvm hw9 hB hz1 hk1 hS => ?_)
  have hP : va_P (dC, dI) vwCl (cW tK tB h ak ab af ka kb n p (up F 6 k (-1))) H := by rw [← ht9]; exact hB
  have hD : va_D A (cW tK tB h ak ab af ka kb n p (up F 6 k (-1))) := cG_D hD
  refine lv_aload_n hx hb dX2_callDown_5 rfl (lv_at hl 0 rfl) ?_
  refine lv_dup hx hb dX2_callDown_6 rfl ?_
  refine va_get (D := (dC, dI)) (ci := 2) (v := .int ((up F 6 k (-1)) 9 3)) (C := RX2) (T := TX2) (N := 9) hx hb hts hi2 hown hK hP 0 rfl rfl 8 (by decide) lk149 (fun _ h9 => h9) rfl dX2_callDown_7 ?_
  refine lv_iconst (v := 1) hx hb dX2_callDown_10 (by decide) ?_
  refine lv_iadd hx hb dX2_callDown_11 ?_
  refine va_put (D := (dC, dI)) (ci := 2) (v := .int (((up F 6 k (-1)) 9 3) + 1)) (ty := .int) (C := RX2) (T := TX2) (N := 9) hx hb hts hi2 tyX2 tyX2_ok nmX2 hown hK hP hD hS 0 rfl rfl 8 (by decide) lk149 (fun _ h9 => h9) rfl (by decide +kernel) rfl rfl (Nat.le_of_ble_eq_true rfl) dX2_callDown_12 (fun H locs hP hD hS => ?_)
  have hP : va_P (dC, dI) vwCl (cG tK tB h ak ab af ka kb n p (up (up F 6 k (-1)) 9 3 (((up F 6 k (-1)) 9 3) + 1)) (flF (up F 6 k (-1)) n) (hbF (up F 6 k (-1)) n)) H := P_eq (rfl) hP
  have hD : va_D A (cG tK tB h ak ab af ka kb n p (up (up F 6 k (-1)) 9 3 (((up F 6 k (-1)) 9 3) + 1)) (flF (up F 6 k (-1)) n) (hbF (up F 6 k (-1)) n)) := D_eq (rfl) hD
  have hP : va_P (dC, dI) vwCl (cW tK tB h ak ab af ka kb n p (dn F k)) H := hP
  exact W.vret hx hb hr (fun t ht hW => ⟨⟨(), rfl, trivial, by show va_P _ _ _ t.heap; rw [ht]; exact hP⟩, hS.F ht⟩) hS.2.2 dX2_callDown_15
end
section
set_option maxHeartbeats 4000000 in
set_option maxRecDepth 100000 in
theorem c_X2_callDownUnheld (l9 : Launch) (dC : Nat → ClassId) (dI : Nat → Nat → Nat) (sz : Nat) {tK tB : ClassId} (h ak ab af : Nat) (ka kb : Nat → Nat) (n p : Nat) (F : Rows)  (hn8 : n ≤ 8) (hkd : ∀ k, k < n → F 0 k = 0 ∨ F 0 k = 1 ∨ F 0 k = 2) (hu : uq n (F 6)) (hlr : ∀ k, k < n → F 6 k = -1 ∨ ∃ l, l < 10 ∧ F 6 k = nI l) : Met l9 yX2_callDownUnheld wsX2_callDownUnheld ({ frames := 4, cells := 0, slots := 0, locals := 85 }) (va_Pc [.ref h] (PWr dC dI [(tK, .object "Windlane$Kite"), (tB, .object "Windlane$Borrower")] (cW tK tB h ak ab af ka kb n p F) sz)) (va_Qv (fun _ : Unit => True) (fun _ t => va_P (dC, dI) vwCl (cW tK tB h ak ab af ka kb n p (uh F n)) t.heap) (va_A (cW tK tB h ak ab af ka kb n p F) sz)) 0 0 (va_A (cW tK tB h ak ab af ka kb n p F) sz) := by
  refine Met.ofW (cc := cX2_callDownUnheld) (maxL := 3) (ret := none) (by decide) rfl ?_
  intro p9 e9 s m args below meth c s₁ B hml hv
  obtain ⟨rfl, hsz, hP, hK, hD0, hE, hH⟩ := hv
  have hx := B.exec
  have hb := B.bytes
  have hr := B.returns
  have hts := atoms_spec (ws := wsX2_callDownUnheld) B.pre
  have hown : s.vm.findClass RX2 = some m.cls := findClass_of_methodNamed B.named
  have hlocks := B.notSynchronized
  have hi1 : ∀ w ∈ u_ws RX1 TX1 9, w ∈ wsX2_callDownUnheld := by decide +kernel
  have hi2 : ∀ w ∈ u_ws RX2 TX2 9, w ∈ wsX2_callDownUnheld := by decide +kernel
  have lk21 := hts (.fieldLink RX2 21 "Windlane" "flyers" "[LWindlane$Kite;") (by decide +kernel)
  have lk51 := hts (.fieldLink RX2 51 "Windlane$Kite" "isTorn" "Z") (by decide +kernel)
  have lk112 := hts (.fieldLink RX2 112 "Windlane" "windSpeed" "I") (by decide +kernel)
  subst hsz
  have hD := hD0.self (sz := s.heap.size)
  generalize hAe : va_A (cW tK tB h ak ab af ka kb n p F) s.heap.size = A at hD hH ⊢
  have hA : ∀ q : Nat, s.heap.size ≤ q → A q := fun q h => by rw [← hAe]; exact Or.inr h
  have hS : va_S A s.heap s.heap [] := va_S.rf
  have hP : va_P (dC, dI) vwCl (cW tK tB h ak ab af ka kb n p F) s.heap := hP
  have hl := lv_entry ([.ref h]) (n := 3) (Nat.le_of_ble_eq_true rfl)
  rw [lg_entry_eq]
  generalize (lg_sl ([.ref h]) ++ List.replicate (3 - (lg_sl ([.ref h])).length) Slot.unset).toArray = ls at hl ⊢
  have hl : lv_has ls 3 [(0, .ref h)] := hl
  refine lv_iconst (v := 0) hx hb dX2_callDownUnheld_0 (by decide) ?_
  refine lv_istore_n (lv' := [(1, .int 0), (0, .ref h)]) hx hb dX2_callDownUnheld_1 rfl hl (by decide) rfl (fun ls hl => ?_)
  refine W_loopH (nL := 3) (fun l : Nat => [(1, .int (nI l)), (0, .ref h)]) (fun (l : Nat) (H : Heap) (locs : List Loc) => l ≤ 10 ∧ va_P (dC, dI) vwCl (cW tK tB h ak ab af ka kb n p (mvd F n (bU F n l))) H ∧ va_S A s.heap H locs) (fun l => 10 - l) ?_ 0 (⟨Nat.zero_le _, by rw [bU_0 hlr]; exact hP, hS⟩) (lv_sub hl [0, 1] rfl)
  intro l H locs ls hI hl ih
  obtain ⟨hl10, hP, hS⟩ := hI
  have hl : lv_has ls 3 [(1, .int (nI l)), (0, .ref h)] := hl
  have hP : va_P (dC, dI) vwCl (cW tK tB h ak ab af ka kb n p (mvd F n (bU F n l))) H := hP
  have hD : va_D A (cW tK tB h ak ab af ka kb n p (mvd F n (bU F n l))) := cG_D hD
  refine lv_iload_n hx hb dX2_callDownUnheld_2 rfl (lv_at hl 0 rfl) ?_
  refine lv_bipush (v := 10) hx hb dX2_callDownUnheld_3 (by decide) ?_
  refine lv_icmp_ge (tgt := 64) hx hb dX2_callDownUnheld_5 (by decide) (fun c_5 => ?_) (fun c_5 => ?_)
  · skip
    have he : l = 10 := by have q := (nI_leI (a := 10) (b := l) (by omega) (by omega)).mp c_5; omega
    subst he
    rw [bU_10 hlr] at hP
    exact W.vret hx hb hr (fun t ht hW => ⟨⟨(), rfl, trivial, by show va_P _ _ _ t.heap; rw [ht]; exact hP⟩, hS.F ht⟩) hS.2.2 dX2_callDownUnheld_64
  · skip
    have hl10 : l < 10 := Nat.not_le.mp (fun q => c_5 ((nI_leI (a := 10) (b := l) (by omega) (by omega)).mpr q))
    refine lv_aload_n hx hb dX2_callDownUnheld_8 rfl (lv_at hl 1 rfl) ?_
    refine va_get (D := (dC, dI)) (ci := 2) (v := .ref af) (C := RX2) (T := TX2) (N := 9) hx hb hts hi2 hown hK hP 0 rfl rfl 4 (by decide) lk21 (fun _ h9 => h9) rfl dX2_callDownUnheld_9 ?_
    refine lv_iload_n hx hb dX2_callDownUnheld_12 rfl (lv_at hl 0 rfl) ?_
    refine my_aldq hx hb hK hP 3 0 rfl rfl hl10 (Nat.le_of_ble_eq_true rfl) dX2_callDownUnheld_13 ?_
    rcases hlk : lk ((mvd F n (bU F n l)) 6) n (nI l) with _ | k
    · skip
      refine W_top (y := .null) (show va_rf ((flF (mvd F n (bU F n l)) n l).map ka) = _ by rw [flF_at hl10, hlk]; rfl) ?_
      refine lv_astore_nN (lv' := [(2, .null), (1, .int (nI l)), (0, .ref h)]) hx hb dX2_callDownUnheld_14 rfl hl (by decide) rfl (fun ls hl => ?_)
      refine lv_aload_nN hx hb dX2_callDownUnheld_15 rfl (lv_at hl 0 rfl) ?_
      refine lv_ifnullN (tgt := 58) hx hb dX2_callDownUnheld_16 (by decide) ?_
      refine lv_iinc (v := nI (l + 1)) (lv' := [(1, .int (nI (l + 1))), (2, .null), (0, .ref h)]) hx hb dX2_callDownUnheld_58 hl (k := 1) rfl (nI_1 _) (by decide) rfl (fun ls hl => ?_)
      refine lv_goto (tgt := 2) hx hb dX2_callDownUnheld_61 (by decide) ?_
      rw [← bU_keep hl10 hlr hu (fun k q => by rw [bU_lk hl10] at hlk; rw [hlk] at q; cases q)] at hP
      exact ih (l + 1) _ _ ls (by omega) (⟨by omega, hP, hS⟩) (lv_sub hl [0, 2] rfl)
    · skip
      refine W_top (y := .ref (ka k)) (show va_rf ((flF (mvd F n (bU F n l)) n l).map ka) = _ by rw [flF_at hl10, hlk]; rfl) ?_
      have hlkn : k < n := (lk_some hlk).1
      have hlk0 : lk (F 6) n (nI l) = some k := by rw [← bU_lk hl10]; exact hlk
      refine lv_astore_n (lv' := [(2, .ref (ka k)), (1, .int (nI l)), (0, .ref h)]) hx hb dX2_callDownUnheld_14 rfl hl (by decide) rfl (fun ls hl => ?_)
      refine lv_aload_n hx hb dX2_callDownUnheld_15 rfl (lv_at hl 0 rfl) ?_
      refine lv_ifnull hx hb dX2_callDownUnheld_16 ?_
      refine lv_aload_n hx hb dX2_callDownUnheld_19 rfl (lv_at hl 0 rfl) ?_
      refine lv_aload_n hx hb dX2_callDownUnheld_20 rfl (lv_at hl 2 rfl) ?_
      refine va_get (D := (dC, dI)) (ci := 2) (v := .int (F 9 0)) (C := RX2) (T := TX2) (N := 9) hx hb hts hi2 hown hK hP 0 rfl rfl 5 (by decide) lk112 (fun _ h9 => h9) rfl dX2_callDownUnheld_21 ?_
      have hq1 := one_P hP (cG_k hlkn)
      refine vp_callSi (va_Run.run (va_runV (As := [.int (F 9 0)]) (rest := []) ⟨hx, hb, hml, hown, hts⟩ (c_X1_holdsIn l9 dC dI (ka k) k (mvd F n (bU F n l)) (F 9 0) (hkd k hlkn)) (cwV 1 hts gX2_callDownUnheld_X1_holdsIn rfl rfl rfl (by decide +kernel) ⟨Nat.le_of_ble_eq_true rfl, Nat.le_of_ble_eq_true rfl⟩) ⟨PRo.blind, va_recv (hK.sub (tys' := []) [] rfl) hq1 (ci := 1) (q0 := 0) rfl rfl, PRo.pre hq1 (hK.sub (tys' := []) [] rfl) hE⟩ rfl rfl hl.1 rfl (lv_room (Nat.le_of_ble_eq_true rfl)) dX2_callDownUnheld_24 ⟨Nat.le_of_ble_eq_true rfl, Nat.le_of_ble_eq_true rfl⟩)) (fun r hr => ?_)
      subst hr
      refine W_top (y := .int (bi (held F k (F 9 0)))) (rfl) ?_
      refine lv_if_ne (tgt := 58) hx hb dX2_callDownUnheld_27 (by decide) (fun c_27 => ?_) (fun c_27 => ?_)
      · skip
        have c_27 := bi_nz.mp c_27
        refine lv_iinc (v := nI (l + 1)) (lv' := [(1, .int (nI (l + 1))), (2, .ref (ka k)), (0, .ref h)]) hx hb dX2_callDownUnheld_58 hl (k := 1) rfl (nI_1 _) (by decide) rfl (fun ls hl => ?_)
        refine lv_goto (tgt := 2) hx hb dX2_callDownUnheld_61 (by decide) ?_
        rw [← bU_keep hl10 hlr hu (fun k2 q => by rw [hlk0] at q; cases q; exact c_27)] at hP
        exact ih (l + 1) _ _ ls (by omega) (⟨by omega, hP, hS⟩) (lv_sub hl [0, 2] rfl)
      · skip
        have c_27 := bi_z.mp c_27
        refine lv_aload_n hx hb dX2_callDownUnheld_30 rfl (lv_at hl 0 rfl) ?_
        refine lv_aload_n hx hb dX2_callDownUnheld_31 rfl (lv_at hl 0 rfl) ?_
        refine lv_aload_n hx hb dX2_callDownUnheld_32 rfl (lv_at hl 2 rfl) ?_
        refine va_get (D := (dC, dI)) (ci := 2) (v := .int (F 9 0)) (C := RX2) (T := TX2) (N := 9) hx hb hts hi2 hown hK hP 0 rfl rfl 5 (by decide) lk112 (fun _ h9 => h9) rfl dX2_callDownUnheld_33 ?_
        have hq1 := one_P hP (cG_k hlkn)
        refine vp_callSi (va_Run.run (va_runV (As := [.int (F 9 0)]) (rest := [.ref (ka k)]) ⟨hx, hb, hml, hown, hts⟩ (c_X1_pullIn l9 dC dI (ka k) k (mvd F n (bU F n l)) (F 9 0) (hkd k hlkn)) (cwV 1 hts gX2_callDownUnheld_X1_pullIn rfl rfl rfl (by decide +kernel) ⟨Nat.le_of_ble_eq_true rfl, Nat.le_of_ble_eq_true rfl⟩) ⟨PRo.blind, va_recv (hK.sub (tys' := []) [] rfl) hq1 (ci := 1) (q0 := 0) rfl rfl, PRo.pre hq1 (hK.sub (tys' := []) [] rfl) hE⟩ rfl rfl hl.1 rfl (lv_room (Nat.le_of_ble_eq_true rfl)) dX2_callDownUnheld_36 ⟨Nat.le_of_ble_eq_true rfl, Nat.le_of_ble_eq_true rfl⟩)) (fun r hr => ?_)
        subst hr
        refine W_top (y := .int (pl F k (F 9 0))) (rfl) ?_
        refine lv_sipush (v := 6000) hx hb dX2_callDownUnheld_39 (by decide) ?_
        refine W_join (pc := 50) (rest := [.ref (ka k)]) (fun v => v = bi (6000 < pl F k (F 9 0))) (fun v hv => ?_) (fun K => ?_)
        · subst hv
          refine va_put (D := (dC, dI)) (ci := 1) (v := .int (bi (6000 < pl F k (F 9 0)))) (ty := .boolean) (C := RX1) (T := TX1) (N := 9) hx hb hts hi1 tyX1 tyX1_ok nmX1 hown hK hP hD hS (k + 4) (cG_k hlkn) rfl 4 (by decide) lk51 (fun _ h9 => h9) rfl (by decide +kernel) (nar_01 (bi_01 _)) (fit_01 (bi_01 _)) (Nat.le_of_ble_eq_true rfl) dX2_callDownUnheld_50 (fun H locs hP hD hS => ?_)
          have hP : va_P (dC, dI) vwCl (cG tK tB h ak ab af ka kb n p (up (mvd F n (bU F n l)) 3 k (bi (6000 < pl F k (F 9 0)))) (flF (mvd F n (bU F n l)) n) (hbF (mvd F n (bU F n l)) n)) H := P_eq (putk (i := 3) (v := bi (6000 < pl F k (F 9 0))) hlkn (by decide) (kE_up3 (mvd F n (bU F n l)) k _)) hP
          have hD : va_D A (cG tK tB h ak ab af ka kb n p (up (mvd F n (bU F n l)) 3 k (bi (6000 < pl F k (F 9 0)))) (flF (mvd F n (bU F n l)) n) (hbF (mvd F n (bU F n l)) n)) := D_eq (putk (i := 3) (v := bi (6000 < pl F k (F 9 0))) hlkn (by decide) (kE_up3 (mvd F n (bU F n l)) k _)) hD
          refine lv_aload_n hx hb dX2_callDownUnheld_53 rfl (lv_at hl 2 rfl) ?_
          refine lv_iload_n hx hb dX2_callDownUnheld_54 rfl (lv_at hl 1 rfl) ?_
          have hP : va_P (dC, dI) vwCl (cW tK tB h ak ab af ka kb n p (up (mvd F n (bU F n l)) 3 k (bi (6000 < pl F k (F 9 0))))) H := hP
          have hD : va_D A (cW tK tB h ak ab af ka kb n p (up (mvd F n (bU F n l)) 3 k (bi (6000 < pl F k (F 9 0))))) := hD
          refine va_callv (va_runV (As := [.int (nI l)]) (rest := []) ⟨hx, hb, hml, hown, hts⟩ (c_X2_callDown l9 dC dI H.size h ak ab af ka kb n p (up (mvd F n (bU F n l)) 3 k (bi (6000 < pl F k (F 9 0)))) l k hl10 hlk (mvd_uq hu)) (cwV 1 hts gX2_callDownUnheld_X2_callDown rfl rfl rfl (by decide +kernel) ⟨Nat.le_of_ble_eq_true rfl, Nat.le_of_ble_eq_true rfl⟩) ⟨PWr.blind, va_recv hK hP (ci := 2) (q0 := 0) rfl rfl, PWr.pre hP hK hD hE ((hH.kept hS.2.1).narrow (A_in hD hS hA))⟩ rfl rfl hl.1 rfl (lv_room (Nat.le_of_ble_eq_true rfl)) dX2_callDownUnheld_55 ⟨Nat.le_of_ble_eq_true rfl, Nat.le_of_ble_eq_true rfl⟩) hS (fun q _ hq => A_in hD hS hA q hq) (A_in hD hS hA) (fun u9 t9 H locs ht9 hvm hw9 hB hz1 hk1 hS => ?_)
          have hP : va_P (dC, dI) vwCl (cW tK tB h ak ab af ka kb n p (dn (up (mvd F n (bU F n l)) 3 k (bi (6000 < pl F k (F 9 0)))) k)) H := by rw [← ht9]; exact hB
          have hD : va_D A (cW tK tB h ak ab af ka kb n p (dn (up (mvd F n (bU F n l)) 3 k (bi (6000 < pl F k (F 9 0)))) k)) := cG_D hD
          rw [mvd_step hlkn (bU_k hl10 hlk0), bU_add hl10 hlr hu hlk0 c_27] at hP
          refine lv_iinc (v := nI (l + 1)) (lv' := [(1, .int (nI (l + 1))), (2, .ref (ka k)), (0, .ref h)]) hx hb dX2_callDownUnheld_58 hl (k := 1) rfl (nI_1 _) (by decide) rfl (fun ls hl => ?_)
          refine lv_goto (tgt := 2) hx hb dX2_callDownUnheld_61 (by decide) ?_
          exact ih (l + 1) _ _ ls (by omega) (⟨by omega, hP, hS⟩) (lv_sub hl [0, 2] rfl)
        · skip
          refine lv_icmp_le (tgt := 49) hx hb dX2_callDownUnheld_42 (by decide) (fun c_42 => ?_) (fun c_42 => ?_)
          · skip
            refine lv_iconst (v := 0) hx hb dX2_callDownUnheld_49 (by decide) ?_
            exact K _ ((bi_f (fun q => by rw [i32_lt] at q; rw [i32_le] at c_42; omega)).symm)
          · skip
            refine lv_iconst (v := 1) hx hb dX2_callDownUnheld_45 (by decide) ?_
            refine lv_goto (tgt := 50) hx hb dX2_callDownUnheld_46 (by decide) ?_
            exact K _ ((bi_t (by rw [i32_lt]; rw [i32_le] at c_42; omega)).symm)

set_option maxHeartbeats 4000000 in
set_option maxRecDepth 100000 in
theorem c_X2_callDownCrossing (l9 : Launch) (dC : Nat → ClassId) (dI : Nat → Nat → Nat) (sz : Nat) {tK tB : ClassId} (h ak ab af : Nat) (ka kb : Nat → Nat) (n p : Nat) (F : Rows)  (hF : HF n F) : Met l9 yX2_callDownCrossing wsX2_callDownCrossing ({ frames := 5, cells := 0, slots := 0, locals := 114 }) (va_Pc [.ref h] (PWr dC dI [(tK, .object "Windlane$Kite"), (tB, .object "Windlane$Borrower")] (cW tK tB h ak ab af ka kb n p F) sz)) (va_Qv (fun _ : Unit => True) (fun _ t => va_P (dC, dI) vwCl (cW tK tB h ak ab af ka kb n p (stl n 10 F)) t.heap) (va_A (cW tK tB h ak ab af ka kb n p F) sz)) 0 0 (va_A (cW tK tB h ak ab af ka kb n p F) sz) := by
  refine Met.ofW (cc := cX2_callDownCrossing) (maxL := 3) (ret := none) (by decide) rfl ?_
  intro p9 e9 s m args below meth c s₁ B hml hv
  obtain ⟨rfl, hsz, hP, hK, hD0, hE, hH⟩ := hv
  have hx := B.exec
  have hb := B.bytes
  have hr := B.returns
  have hts := atoms_spec (ws := wsX2_callDownCrossing) B.pre
  have hown : s.vm.findClass RX2 = some m.cls := findClass_of_methodNamed B.named
  have hlocks := B.notSynchronized
  subst hsz
  have hD := hD0.self (sz := s.heap.size)
  generalize hAe : va_A (cW tK tB h ak ab af ka kb n p F) s.heap.size = A at hD hH ⊢
  have hA : ∀ q : Nat, s.heap.size ≤ q → A q := fun q h => by rw [← hAe]; exact Or.inr h
  have hS : va_S A s.heap s.heap [] := va_S.rf
  have hP : va_P (dC, dI) vwCl (cW tK tB h ak ab af ka kb n p F) s.heap := hP
  have hl := lv_entry ([.ref h]) (n := 3) (Nat.le_of_ble_eq_true rfl)
  rw [lg_entry_eq]
  generalize (lg_sl ([.ref h]) ++ List.replicate (3 - (lg_sl ([.ref h])).length) Slot.unset).toArray = ls at hl ⊢
  have hl : lv_has ls 3 [(0, .ref h)] := hl
  refine lv_iconst (v := 0) hx hb dX2_callDownCrossing_0 (by decide) ?_
  refine lv_istore_n (lv' := [(1, .int 0), (0, .ref h)]) hx hb dX2_callDownCrossing_1 rfl hl (by decide) rfl (fun ls hl => ?_)
  refine W_loopH (nL := 3) (fun x : Nat × Rows => [(1, .int (nI x.1)), (0, .ref h)]) (fun (x : Nat × Rows) (H : Heap) (locs : List Loc) => x.1 ≤ 10 ∧ HF n x.2 ∧ stl n (10 - x.1) x.2 = stl n 10 F ∧ va_P (dC, dI) vwCl (cW tK tB h ak ab af ka kb n p x.2) H ∧ va_S A s.heap H locs) (fun x => 10 - x.1) ?_ (0, F) (⟨Nat.zero_le _, hF, rfl, hP, hS⟩) (lv_sub hl [0, 1] rfl)
  intro x H locs ls hI hl ih
  obtain ⟨i, G⟩ := x
  dsimp only at hI
  obtain ⟨hi10, hF, hst, hP, hS⟩ := hI
  have hl : lv_has ls 3 [(1, .int (nI i)), (0, .ref h)] := hl
  have hD : va_D A (cW tK tB h ak ab af ka kb n p G) := cG_D hD
  refine lv_iload_n hx hb dX2_callDownCrossing_2 rfl (lv_at hl 0 rfl) ?_
  refine lv_bipush (v := 10) hx hb dX2_callDownCrossing_3 (by decide) ?_
  refine lv_icmp_ge (tgt := 30) hx hb dX2_callDownCrossing_5 (by decide) (fun c_5 => ?_) (fun c_5 => ?_)
  · skip
    have he : i = 10 := by have q := (nI_leI (a := 10) (b := i) (by omega) (by omega)).mp c_5; omega
    subst he
    rw [show 10 - 10 = 0 from rfl, stl] at hst
    rw [hst] at hP
    exact W.vret hx hb hr (fun t ht hW => ⟨⟨(), rfl, trivial, by show va_P _ _ _ t.heap; rw [ht]; exact hP⟩, hS.F ht⟩) hS.2.2 dX2_callDownCrossing_30
  · skip
    have hlt : i < 10 := Nat.not_le.mp (fun q => c_5 ((nI_leI (a := 10) (b := i) (by omega) (by omega)).mpr q))
    refine lv_aload_n hx hb dX2_callDownCrossing_8 rfl (lv_at hl 1 rfl) ?_
    refine vp_callSi (va_Run.run (va_runV (As := []) (rest := []) ⟨hx, hb, hml, hown, hts⟩ (c_X2_weakerLaneOfFirstCrossing l9 dC dI h ak ab af ka kb n p G hF.1 hF.2.1 hF.2.2.1) (cwV 0 hts gX2_callDownCrossing_X2_weakerLaneOfFirstCrossing rfl rfl rfl (by decide +kernel) ⟨Nat.le_of_ble_eq_true rfl, Nat.le_of_ble_eq_true rfl⟩) ⟨PRo.blind, va_recv hK hP (ci := 2) (q0 := 0) rfl rfl, PRo.pre hP hK hE⟩ rfl rfl hl.1 rfl (lv_room (Nat.le_of_ble_eq_true rfl)) dX2_callDownCrossing_9 ⟨Nat.le_of_ble_eq_true rfl, Nat.le_of_ble_eq_true rfl⟩)) (fun r9 hr9 => ?_)
    subst hr9
    rcases hcK : cK G n with _ | k
    · skip
      refine W_top (y := .int (-1)) (rfl) ?_
      refine lv_istore_n (lv' := [(2, .int (-1)), (1, .int (nI i)), (0, .ref h)]) hx hb dX2_callDownCrossing_12 rfl hl (by decide) rfl (fun ls hl => ?_)
      refine lv_iload_n hx hb dX2_callDownCrossing_13 rfl (lv_at hl 0 rfl) ?_
      refine lv_iconst (v := (-1)) hx hb dX2_callDownCrossing_14 (by decide) ?_
      refine lv_icmp_ne (tgt := 19) hx hb dX2_callDownCrossing_15 (by decide) (fun c_15 => absurd (by decide) c_15) (fun _ => ?_)
      rw [stl_none hcK] at hst
      rw [hst] at hP
      exact W.vret hx hb hr (fun t ht hW => ⟨⟨(), rfl, trivial, by show va_P _ _ _ t.heap; rw [ht]; exact hP⟩, hS.F ht⟩) hS.2.2 dX2_callDownCrossing_18
    · skip
      obtain ⟨l, hl10, hlk⟩ := cK_fl hcK
      refine W_top (y := .int (nI l)) (congrArg Value.int (lk_some hlk).2) ?_
      refine lv_istore_n (lv' := [(2, .int (nI l)), (1, .int (nI i)), (0, .ref h)]) hx hb dX2_callDownCrossing_12 rfl hl (by decide) rfl (fun ls hl => ?_)
      refine lv_iload_n hx hb dX2_callDownCrossing_13 rfl (lv_at hl 0 rfl) ?_
      refine lv_iconst (v := (-1)) hx hb dX2_callDownCrossing_14 (by decide) ?_
      refine lv_icmp_ne (tgt := 19) hx hb dX2_callDownCrossing_15 (by decide) (fun _ => ?_) (fun c_15 => absurd c_15 (nI_m1 (by omega)))
      refine lv_aload_n hx hb dX2_callDownCrossing_19 rfl (lv_at hl 2 rfl) ?_
      refine lv_iload_n hx hb dX2_callDownCrossing_20 rfl (lv_at hl 0 rfl) ?_
      refine va_callv (va_runV (As := [.int (nI l)]) (rest := []) ⟨hx, hb, hml, hown, hts⟩ (c_X2_callDown l9 dC dI H.size h ak ab af ka kb n p G l k hl10 hlk hF.2.2.2.1) (cwV 1 hts gX2_callDownCrossing_X2_callDown rfl rfl rfl (by decide +kernel) ⟨Nat.le_of_ble_eq_true rfl, Nat.le_of_ble_eq_true rfl⟩) ⟨PWr.blind, va_recv hK hP (ci := 2) (q0 := 0) rfl rfl, PWr.pre hP hK hD hE ((hH.kept hS.2.1).narrow (A_in hD hS hA))⟩ rfl rfl hl.1 rfl (lv_room (Nat.le_of_ble_eq_true rfl)) dX2_callDownCrossing_21 ⟨Nat.le_of_ble_eq_true rfl, Nat.le_of_ble_eq_true rfl⟩) hS (fun q _ hq => A_in hD hS hA q hq) (A_in hD hS hA) (fun u9 t9 H locs ht9 hvm hw9 hB hz1 hk1 hS => ?_)
      have hP : va_P (dC, dI) vwCl (cW tK tB h ak ab af ka kb n p (dn G k)) H := by rw [← ht9]; exact hB
      have hD : va_D A (cW tK tB h ak ab af ka kb n p (dn G k)) := cG_D hD
      refine lv_iinc (v := nI (i + 1)) (lv' := [(1, .int (nI (i + 1))), (2, .int (nI l)), (0, .ref h)]) hx hb dX2_callDownCrossing_24 hl (k := 1) rfl (nI_1 _) (by decide) rfl (fun ls hl => ?_)
      refine lv_goto (tgt := 2) hx hb dX2_callDownCrossing_27 (by decide) ?_
      have hst2 : stl n (10 - (i + 1)) (dn G k) = stl n 10 F := by rw [← hst, show 10 - i = (10 - (i + 1)) + 1 by omega, stl_some hcK]
      exact ih ((i + 1, dn G k)) _ _ ls (by show 10 - (i + 1) < 10 - i; omega) (⟨by show i + 1 ≤ 10; omega, hF.dn k, hst2, hP, hS⟩) (lv_sub hl [0, 2] rfl)

set_option maxHeartbeats 4000000 in
set_option maxRecDepth 100000 in
theorem c_X2_spendHour (l9 : Launch) (dC : Nat → ClassId) (dI : Nat → Nat → Nat) (sz : Nat) {tK tB : ClassId} (h ak ab af : Nat) (ka kb : Nat → Nat) (n p : Nat) (F : Rows)  (hn8 : n ≤ 8) : Met l9 yX2_spendHour wsX2_spendHour ({ frames := 2, cells := 0, slots := 0, locals := 41 }) (va_Pc [.ref h] (PWr dC dI [(tK, .object "Windlane$Kite"), (tB, .object "Windlane$Borrower")] (cW tK tB h ak ab af ka kb n p F) sz)) (va_Qv (fun _ : Unit => True) (fun _ t => va_P (dC, dI) vwCl (cW tK tB h ak ab af ka kb n p (hr1 F n)) t.heap) (va_A (cW tK tB h ak ab af ka kb n p F) sz)) 0 0 (va_A (cW tK tB h ak ab af ka kb n p F) sz) := by
  refine Met.ofW (cc := cX2_spendHour) (maxL := 5) (ret := none) (by decide) rfl ?_
  intro p9 e9 s m args below meth c s₁ B hml hv
  obtain ⟨rfl, hsz, hP, hK, hD0, hE, hH⟩ := hv
  have hx := B.exec
  have hb := B.bytes
  have hr := B.returns
  have hts := atoms_spec (ws := wsX2_spendHour) B.pre
  have hown : s.vm.findClass RX2 = some m.cls := findClass_of_methodNamed B.named
  have hlocks := B.notSynchronized
  have hi2 : ∀ w ∈ u_ws RX2 TX2 9, w ∈ wsX2_spendHour := by decide +kernel
  have lk11 := hts (.fieldLink RX2 11 "Windlane" "kites" "[LWindlane$Kite;") (by decide +kernel)
  have lk158 := hts (.fieldLink RX2 158 "Windlane" "isRaining" "Z") (by decide +kernel)
  subst hsz
  have hD := hD0.self (sz := s.heap.size)
  generalize hAe : va_A (cW tK tB h ak ab af ka kb n p F) s.heap.size = A at hD hH ⊢
  have hA : ∀ q : Nat, s.heap.size ≤ q → A q := fun q h => by rw [← hAe]; exact Or.inr h
  have hS : va_S A s.heap s.heap [] := va_S.rf
  have hP : va_P (dC, dI) vwCl (cW tK tB h ak ab af ka kb n p F) s.heap := hP
  have hl := lv_entry ([.ref h]) (n := 5) (Nat.le_of_ble_eq_true rfl)
  rw [lg_entry_eq]
  generalize (lg_sl ([.ref h]) ++ List.replicate (5 - (lg_sl ([.ref h])).length) Slot.unset).toArray = ls at hl ⊢
  have hl : lv_has ls 5 [(0, .ref h)] := hl
  refine lv_aload_n hx hb dX2_spendHour_0 rfl (lv_at hl 0 rfl) ?_
  refine va_get (D := (dC, dI)) (ci := 2) (v := .ref ak) (C := RX2) (T := TX2) (N := 9) hx hb hts hi2 hown hK hP 0 rfl rfl 0 (by decide) lk11 (fun _ h9 => h9) rfl dX2_spendHour_1 ?_
  refine lv_astore_n (lv' := [(1, .ref ak), (0, .ref h)]) hx hb dX2_spendHour_4 rfl hl (by decide) rfl (fun ls hl => ?_)
  refine lv_aload_n hx hb dX2_spendHour_5 rfl (lv_at hl 0 rfl) ?_
  refine va_alen hx hb hK hP 1 0 rfl rfl (v := nI 8) rfl dX2_spendHour_6 ?_
  refine lv_istore_n (lv' := [(2, .int (nI 8)), (1, .ref ak), (0, .ref h)]) hx hb dX2_spendHour_7 rfl hl (by decide) rfl (fun ls hl => ?_)
  refine lv_iconst (v := 0) hx hb dX2_spendHour_8 (by decide) ?_
  refine lv_istore_n (lv' := [(3, .int 0), (2, .int (nI 8)), (1, .ref ak), (0, .ref h)]) hx hb dX2_spendHour_9 rfl hl (by decide) rfl (fun ls hl => ?_)
  refine W_loopH (nL := 5) (fun i : Nat => [(3, .int (nI i)), (0, .ref h), (1, .ref ak), (2, .int (nI 8))]) (fun (i : Nat) (H : Heap) (locs : List Loc) => i ≤ 8 ∧ va_P (dC, dI) vwCl (cW tK tB h ak ab af ka kb n p (sh F n i)) H ∧ va_S A s.heap H locs) (fun i => 8 - i) ?_ 0 (⟨Nat.zero_le _, by rw [sh_0]; exact hP, hS⟩) (lv_sub hl [0, 3, 2, 1] rfl)
  intro i H locs ls hI hl ih
  obtain ⟨hi8, hP, hS⟩ := hI
  have hl : lv_has ls 5 [(3, .int (nI i)), (0, .ref h), (1, .ref ak), (2, .int (nI 8))] := hl
  have hP : va_P (dC, dI) vwCl (cW tK tB h ak ab af ka kb n p (sh F n i)) H := hP
  have hD : va_D A (cW tK tB h ak ab af ka kb n p (sh F n i)) := cG_D hD
  refine lv_iload_n hx hb dX2_spendHour_10 rfl (lv_at hl 0 rfl) ?_
  refine lv_iload_n hx hb dX2_spendHour_11 rfl (lv_at hl 3 rfl) ?_
  refine lv_icmp_ge (tgt := 40) hx hb dX2_spendHour_12 (by decide) (fun c_12 => ?_) (fun c_12 => ?_)
  · skip
    have he : i = 8 := by have q := (nI_leI (a := 8) (b := i) (by omega) (by omega)).mp c_12; omega
    subst he
    rw [sh_8 hn8] at hP
    exact W.vret hx hb hr (fun t ht hW => ⟨⟨(), rfl, trivial, by show va_P _ _ _ t.heap; rw [ht]; exact hP⟩, hS.F ht⟩) hS.2.2 dX2_spendHour_40
  · skip
    have hi : i < 8 := Nat.not_le.mp (fun q => c_12 ((nI_leI (a := 8) (b := i) (by omega) (by omega)).mpr q))
    refine lv_aload_n hx hb dX2_spendHour_15 rfl (lv_at hl 2 rfl) ?_
    refine lv_iload_n hx hb dX2_spendHour_16 rfl (lv_at hl 0 rfl) ?_
    refine my_aldq hx hb hK hP 1 0 rfl rfl hi (Nat.le_of_ble_eq_true rfl) dX2_spendHour_17 ?_
    rcases Nat.lt_or_ge i n with hin | hin
    · skip
      refine W_top (y := .ref (ka i)) (show va_rf (if i < n then some (ka i) else none) = _ by rw [if_pos hin]; rfl) ?_
      refine lv_astore (lv' := [(4, .ref (ka i)), (3, .int (nI i)), (0, .ref h), (1, .ref ak), (2, .int (nI 8))]) hx hb dX2_spendHour_18 hl (by decide) rfl (fun ls hl => ?_)
      refine lv_aload hx hb dX2_spendHour_20 (lv_at hl 0 rfl) ?_
      refine lv_ifnull hx hb dX2_spendHour_22 ?_
      refine lv_aload hx hb dX2_spendHour_25 (lv_at hl 0 rfl) ?_
      refine lv_aload_n hx hb dX2_spendHour_27 rfl (lv_at hl 2 rfl) ?_
      refine va_get (D := (dC, dI)) (ci := 2) (v := .int ((sh F n i) 9 2)) (C := RX2) (T := TX2) (N := 9) hx hb hts hi2 hown hK hP 0 rfl rfl 7 (by decide) lk158 (fun _ h9 => h9) rfl dX2_spendHour_28 ?_
      have hq1 := one_P hP (cG_k hin)
      have hqD : va_D A [(ka i, kE (sh F n i) i)] := hD.sub [i + 4] (by simp [va_nd]) (by simp only [List.map_cons, List.map_nil, cG_k hin])
      refine va_callv (va_runV (As := [.int (F 9 2)]) (rest := []) ⟨hx, hb, hml, hown, hts⟩ (c_X1_spendHour l9 dC dI H.size (ka i) i (sh F n i) (F 9 2)) (cwV 1 hts gX2_spendHour_X1_spendHour rfl rfl rfl (by decide +kernel) ⟨Nat.le_of_ble_eq_true rfl, Nat.le_of_ble_eq_true rfl⟩) ⟨PWr.blind, va_recv (hK.sub (tys' := []) [] rfl) hq1 (ci := 1) (q0 := 0) rfl rfl, PWr.pre hq1 (hK.sub (tys' := []) [] rfl) hqD hE ((hH.kept hS.2.1).narrow (A_in hqD hS hA))⟩ rfl rfl hl.1 rfl (lv_room (Nat.le_of_ble_eq_true rfl)) dX2_spendHour_31 ⟨Nat.le_of_ble_eq_true rfl, Nat.le_of_ble_eq_true rfl⟩) hS (fun q _ hq => A_in hqD hS hA q hq) (A_in hqD hS hA) (fun u9 t9 H1 locs ht9 hvm hw9 hB hz1 hk1 hS => ?_)
      have hP1 : va_P (dC, dI) vwCl [(ka i, kE (up (sh F n i) 4 i (if ¬ F 9 2 = 0 ∧ ¬ (sh F n i) 6 i = -1 then 6 else if 0 < (sh F n i) 4 i then (sh F n i) 4 i - 1 else (sh F n i) 4 i)) i)] H1 := by rw [← ht9]; exact hB
      have hP := (join_1 hP hD (cG_k hin) hk1 hP1).1
      generalize H1 = H at hP hS ⊢
      have hP : va_P (dC, dI) vwCl (cW tK tB h ak ab af ka kb n p (up (sh F n i) 4 i (if ¬ F 9 2 = 0 ∧ ¬ (sh F n i) 6 i = -1 then 6 else if 0 < (sh F n i) 4 i then (sh F n i) 4 i - 1 else (sh F n i) 4 i))) H := P_eq (putE (i := 4) hin (by decide) rfl) hP
      rw [sh_step hin] at hP
      refine lv_iinc (v := nI (i + 1)) (lv' := [(3, .int (nI (i + 1))), (4, .ref (ka i)), (0, .ref h), (1, .ref ak), (2, .int (nI 8))]) hx hb dX2_spendHour_34 hl (k := 1) rfl (nI_1 _) (by decide) rfl (fun ls hl => ?_)
      refine lv_goto (tgt := 10) hx hb dX2_spendHour_37 (by decide) ?_
      exact ih (i + 1) _ _ ls (by omega) (⟨by omega, hP, hS⟩) (lv_sub hl [0, 2, 3, 4] rfl)
    · skip
      refine W_top (y := .null) (show va_rf (if i < n then some (ka i) else none) = _ by rw [if_neg (Nat.not_lt.mpr hin)]; rfl) ?_
      refine lv_astoreN (lv' := [(4, .null), (3, .int (nI i)), (0, .ref h), (1, .ref ak), (2, .int (nI 8))]) hx hb dX2_spendHour_18 hl (by decide) rfl (fun ls hl => ?_)
      refine lv_aloadN hx hb dX2_spendHour_20 (lv_at hl 0 rfl) ?_
      refine lv_ifnullN (tgt := 34) hx hb dX2_spendHour_22 (by decide) ?_
      refine lv_iinc (v := nI (i + 1)) (lv' := [(3, .int (nI (i + 1))), (4, .null), (0, .ref h), (1, .ref ak), (2, .int (nI 8))]) hx hb dX2_spendHour_34 hl (k := 1) rfl (nI_1 _) (by decide) rfl (fun ls hl => ?_)
      refine lv_goto (tgt := 10) hx hb dX2_spendHour_37 (by decide) ?_
      rw [← sh_past hin] at hP
      exact ih (i + 1) _ _ ls (by omega) (⟨by omega, hP, hS⟩) (lv_sub hl [0, 2, 3, 4] rfl)
end
section
/-! ===== what a public method of the class leaves ===== -/
def cQ (dC : Nat → ClassId) (dI : Nat → Nat → Nat) (tK tB : ClassId) (h ak ab af : Nat) (A : Nat → Prop) (n p : Nat) (F : Rows) (th ans : Int32) : Array Value → State → Outcome → State → Prop := va_Qi (S := (Nat → Nat) × (Nat → Nat)) (fun r9 _ => th = 0 ∧ r9 = ans) (fun u t => va_P (dC, dI) vwCl (cW tK tB h ak ab af u.1 u.2 n p F) t.heap ∧ va_D A (cW tK tB h ak ab af u.1 u.2 n p F)) A
def cQv (dC : Nat → ClassId) (dI : Nat → Nat → Nat) (tK tB : ClassId) (h ak ab af : Nat) (A : Nat → Prop) (n p : Nat) (F : Rows) (th : Int32) : Array Value → State → Outcome → State → Prop := va_Qv (S := (Nat → Nat) × (Nat → Nat)) (fun _ => th = 0) (fun u t => va_P (dC, dI) vwCl (cW tK tB h ak ab af u.1 u.2 n p F) t.heap ∧ va_D A (cW tK tB h ak ab af u.1 u.2 n p F)) A
theorem cQ_mk {dC : Nat → ClassId} {dI : Nat → Nat → Nat} {tK tB : ClassId} {h ak ab af : Nat} {A : Nat → Prop} {n p : Nat} {F : Rows} {th ans v : Int32} {as : Array Value} {st t : State} (ka kb : Nat → Nat) (h1 : th = 0) (h2 : v = ans) (h3 : va_P (dC, dI) vwCl (cW tK tB h ak ab af ka kb n p F) t.heap) (h4 : va_D A (cW tK tB h ak ab af ka kb n p F)) (h5 : va_F A st t) : cQ dC dI tK tB h ak ab af A n p F th ans as st (.returned (some (.int v))) t := ⟨⟨v, (ka, kb), rfl, ⟨h1, h2⟩, h3, h4⟩, h5⟩
theorem cQv_mk {dC : Nat → ClassId} {dI : Nat → Nat → Nat} {tK tB : ClassId} {h ak ab af : Nat} {A : Nat → Prop} {n p : Nat} {F : Rows} {th : Int32} {as : Array Value} {st t : State} (ka kb : Nat → Nat) (h1 : th = 0) (h3 : va_P (dC, dI) vwCl (cW tK tB h ak ab af ka kb n p F) t.heap) (h4 : va_D A (cW tK tB h ak ab af ka kb n p F)) (h5 : va_F A st t) : cQv dC dI tK tB h ak ab af A n p F th as st (.returned none) t := ⟨⟨(ka, kb), rfl, h1, h3, h4⟩, h5⟩

set_option maxHeartbeats 4000000 in
set_option maxRecDepth 100000 in
theorem c_X2_patch (l9 : Launch) (hlt : l9.stackTraces = false) (dC : Nat → ClassId) (dI : Nat → Nat → Nat) (sz : Nat) {tK tB : ClassId} (h ak ab af : Nat) (ka kb : Nat → Nat) (n p : Nat) (F : Rows) (its : Int32) (hI : Inv n p F) : vx_Met l9 yX2_patch wsX2_patch ({ frames := 7, cells := 2, slots := 12, locals := 104 }) (va_Pc [.ref h, .int its] (PWr dC dI [(tK, .object "Windlane$Kite"), (tB, .object "Windlane$Borrower")] (cW tK tB h ak ab af ka kb n p F) sz)) (cQ dC dI tK tB h ak ab af (va_A (cW tK tB h ak ab af ka kb n p F) sz) n p ((S_patch n F its).2.2) ((S_patch n F its).1) ((S_patch n F its).2.1)) (vx_X (fun _ : Unit => True) (fun E _ _ => (E = "java/lang/IndexOutOfBoundsException" ∧ (S_patch n F its).1 = 1) ∨ (E = "java/lang/IllegalStateException" ∧ (S_patch n F its).1 = 2)) (fun _ => False)) 2 12 (va_A (cW tK tB h ak ab af ka kb n p F) sz) := by
  refine vx_ofW (cc := cX2_patch) (maxL := 3) (ret := (some .int)) (by decide) rfl ?_
  intro p9 e9 s m args below meth c s₁ B hml hout hv
  obtain ⟨rfl, hsz, hP, hK, hD0, hE, hH⟩ := hv
  have hx := B.exec
  have hb := B.bytes
  have hr := B.returns
  have hts := atoms_spec (ws := wsX2_patch) B.pre
  have hown : s.vm.findClass RX2 = some m.cls := findClass_of_methodNamed B.named
  have hlocks := B.notSynchronized
  have hi1 : ∀ w ∈ u_ws RX1 TX1 9, w ∈ wsX2_patch := by decide +kernel
  have lk51 := hts (.fieldLink RX2 51 "Windlane$Kite" "isTorn" "Z") (by decide +kernel)
  have lk57 := hts (.fieldLink RX2 57 "Windlane$Kite" "weight" "I") (by decide +kernel)
  subst hsz
  have hD := hD0.self (sz := s.heap.size)
  generalize hAe : va_A (cW tK tB h ak ab af ka kb n p F) s.heap.size = A at hD hH ⊢
  have hA : ∀ q : Nat, s.heap.size ≤ q → A q := fun q h => by rw [← hAe]; exact Or.inr h
  have hS : va_S A s.heap s.heap [] := va_S.rf
  have hP : va_P (dC, dI) vwCl (cW tK tB h ak ab af ka kb n p F) s.heap := hP
  have hn8 : n ≤ 8 := hI.1.1
  have hp8 : p ≤ 8 := hI.1.2
  have hl := lv_entry ([.ref h, .int its]) (n := 3) (Nat.le_of_ble_eq_true rfl)
  rw [lg_entry_eq]
  generalize (lg_sl ([.ref h, .int its]) ++ List.replicate (3 - (lg_sl ([.ref h, .int its])).length) Slot.unset).toArray = ls at hl ⊢
  have hl : lv_has ls 3 [(0, .ref h), (1, .int its)] := hl
  refine lv_aload_n hx hb dX2_patch_0 rfl (lv_at hl 0 rfl) ?_
  refine lv_iload_n hx hb dX2_patch_1 rfl (lv_at hl 1 rfl) ?_
  refine my_callXq (vx_runV (As := [.int its]) (rest := []) ⟨hx, hb, hml, hown, hts⟩ (c_X2_kiteAt l9 hlt dC dI s.heap.size h ak ab af ka kb n p F its hI.1.1) (cwV 1 hts gX2_patch_X2_kiteAt rfl rfl rfl (by decide +kernel) ⟨Nat.le_of_ble_eq_true rfl, Nat.le_of_ble_eq_true rfl⟩) ⟨PWr.blind, va_recv hK hP (ci := 2) (q0 := 0) rfl rfl, PWr.pre hP hK hD hE (hH.narrow (A_in hD hS hA))⟩ rfl rfl hl.1 rfl (lv_room (Nat.le_of_ble_eq_true rfl)) dX2_patch_2 ⟨Nat.le_of_ble_eq_true rfl, Nat.le_of_ble_eq_true rfl⟩) (fun E ce q9 H1 hBE hz1 hk1 hce hcv hcl => vx_out (fun x hx => (hout x hx).elim) hlocks hce hcv hcl (fun t ht _ => ⟨(), trivial, Or.inl (⟨hBE.1, by rw [S_patch, ix_f hBE.2]⟩), by rw [ht]; exact hz1, fun q hq _ => by rw [ht]; exact hk1 q hq⟩) (fun z hz => absurd hz List.not_mem_nil) (Nat.le_of_ble_eq_true rfl) (Nat.le_of_ble_eq_true rfl)) (fun r9 hr9 => ?_)
  obtain ⟨k, hkn, rfl, rfl⟩ := hr9
  have hixk : ix n (nI k) = some k := ix_t hkn (by omega)
  have hl : lv_has ls 3 [(0, .ref h), (1, .int (nI k))] := hl
  refine W_top (x := va_rf (some (ka k))) (y := .ref (ka k)) rfl ?_
  refine lv_astore_n (lv' := [(2, .ref (ka k)), (0, .ref h), (1, .int (nI k))]) hx hb dX2_patch_5 rfl hl (by decide) rfl (fun ls hl => ?_)
  refine lv_aload_n hx hb dX2_patch_6 rfl (lv_at hl 0 rfl) ?_
  refine va_get (D := (dC, dI)) (ci := 1) (v := .int (F 3 k)) (C := RX1) (T := TX1) (N := 9) hx hb hts hi1 hown hK hP (k + 4) (cG_k hkn) rfl 4 (by decide) lk51 (fun _ h9 => h9) rfl dX2_patch_7 ?_
  refine lv_if_ne (tgt := 23) hx hb dX2_patch_10 (by decide) (fun c_10 => ?_) (fun c_10 => ?_)
  · skip
    refine lv_aload_n hx hb dX2_patch_23 rfl (lv_at hl 0 rfl) ?_
    refine va_get (D := (dC, dI)) (ci := 1) (v := .int (F 2 k)) (C := RX1) (T := TX1) (N := 9) hx hb hts hi1 hown hK hP (k + 4) (cG_k hkn) rfl 3 (by decide) lk57 (fun _ h9 => h9) rfl dX2_patch_24 ?_
    refine lv_iconst (v := 2) hx hb dX2_patch_27 (by decide) ?_
    refine lv_iadd hx hb dX2_patch_28 ?_
    refine lv_bipush (v := 40) hx hb dX2_patch_29 (by decide) ?_
    refine lv_icmp_le (tgt := 44) hx hb dX2_patch_31 (by decide) (fun c_31 => ?_) (fun c_31 => ?_)
    · skip
      refine lv_aload_n hx hb dX2_patch_44 rfl (lv_at hl 0 rfl) ?_
      refine lv_iconst (v := 0) hx hb dX2_patch_45 (by decide) ?_
      refine va_put (D := (dC, dI)) (ci := 1) (v := .int 0) (ty := .boolean) (C := RX1) (T := TX1) (N := 9) hx hb hts hi1 tyX1 tyX1_ok nmX1 hown hK hP hD hS (k + 4) (cG_k hkn) rfl 4 (by decide) lk51 (fun _ h9 => h9) rfl (by decide +kernel) rfl rfl (Nat.le_of_ble_eq_true rfl) dX2_patch_46 (fun H locs hP hD hS => ?_)
      have hP : va_P (dC, dI) vwCl (cG tK tB h ak ab af ka kb n p (up F 3 k 0) (flF F n) (hbF F n)) H := P_eq (putk (i := 3) (v := 0) hkn (by decide) (kE_up3 F k _)) hP
      have hD : va_D A (cG tK tB h ak ab af ka kb n p (up F 3 k 0) (flF F n) (hbF F n)) := D_eq (putk (i := 3) (v := 0) hkn (by decide) (kE_up3 F k _)) hD
      refine lv_aload_n hx hb dX2_patch_49 rfl (lv_at hl 0 rfl) ?_
      refine lv_dup hx hb dX2_patch_50 rfl ?_
      refine va_get (D := (dC, dI)) (ci := 1) (v := .int (F 2 k)) (C := RX1) (T := TX1) (N := 9) hx hb hts hi1 hown hK hP (k + 4) (cG_k hkn) rfl 3 (by decide) lk57 (fun _ h9 => h9) rfl dX2_patch_51 ?_
      refine lv_iconst (v := 2) hx hb dX2_patch_54 (by decide) ?_
      refine lv_iadd hx hb dX2_patch_55 ?_
      refine va_put (D := (dC, dI)) (ci := 1) (v := .int ((F 2 k) + 2)) (ty := .int) (C := RX1) (T := TX1) (N := 9) hx hb hts hi1 tyX1 tyX1_ok nmX1 hown hK hP hD hS (k + 4) (cG_k hkn) rfl 3 (by decide) lk57 (fun _ h9 => h9) rfl (by decide +kernel) rfl rfl (Nat.le_of_ble_eq_true rfl) dX2_patch_56 (fun H locs hP hD hS => ?_)
      have hP : va_P (dC, dI) vwCl (cG tK tB h ak ab af ka kb n p (up (up F 3 k 0) 2 k ((F 2 k) + 2)) (flF F n) (hbF F n)) H := P_eq (putk (i := 2) (v := (F 2 k) + 2) hkn (by decide) (kE_up2 (up F 3 k 0) k _)) hP
      have hD : va_D A (cG tK tB h ak ab af ka kb n p (up (up F 3 k 0) 2 k ((F 2 k) + 2)) (flF F n) (hbF F n)) := D_eq (putk (i := 2) (v := (F 2 k) + 2) hkn (by decide) (kE_up2 (up F 3 k 0) k _)) hD
      refine lv_aload_n hx hb dX2_patch_59 rfl (lv_at hl 0 rfl) ?_
      refine va_get (D := (dC, dI)) (ci := 1) (v := .int ((up (up F 3 k 0) 2 k ((F 2 k) + 2)) 2 k)) (C := RX1) (T := TX1) (N := 9) hx hb hts hi1 hown hK hP (k + 4) (cG_k hkn) rfl 3 (by decide) lk57 (fun _ h9 => h9) rfl dX2_patch_60 ?_
      refine W_top (y := .int (F 2 k + 2)) (congrArg Value.int (up_ss _ _ _ _)) ?_
      have hP : va_P (dC, dI) vwCl (cW tK tB h ak ab af ka kb n p (up (up F 3 k 0) 2 k ((F 2 k) + 2))) H := hP
      have hD : va_D A (cW tK tB h ak ab af ka kb n p (up (up F 3 k 0) 2 k ((F 2 k) + 2))) := hD
      have hS9 : S_patch n F (nI k) = (0, F 2 k + 2, up (up F 3 k 0) 2 k ((F 2 k) + 2)) := by rw [S_patch, hixk]; exact if_pos ⟨c_10, c_31⟩
      refine vx_ret ?_
      refine W.widen (k := 2) (n := 12) (Nat.le_of_ble_eq_true rfl) (Nat.le_of_ble_eq_true rfl) ?_
      exact W.iret (v := F 2 k + 2) hx hb hr (fun t ht hW => cQ_mk ka kb (by rw [hS9]) (by rw [hS9]) (by rw [hS9, ht]; exact hP) (by rw [hS9]; exact hD) (hS.F ht)) hS.2.2 dX2_patch_63
    · skip
      have hS9 : S_patch n F (nI k) = (2, 0, F) := by rw [S_patch, hixk]; exact if_neg (fun q => c_31 q.2)
      obtain ⟨sa, hsa⟩ := hE.2.2.2 (60, "the kite would be too heavy") (by decide +kernel)
      exact vx_throwS (own := RX2) (cls := "java/lang/IllegalStateException") (text := "the kite would be too heavy") (names := ["java/lang/RuntimeException", "java/lang/Exception"]) (ik := 39) (is := 60) (ic := 43) (sa := sa) (A := A) hx hb hlt hown (by decide +kernel) (by decide +kernel) (hts (.classLink RX2 39 "java/lang/IllegalStateException") (by decide +kernel)) (hts (.initialized "java/lang/IllegalStateException") (by decide +kernel)) hsa (vx_hat (B := [.castable "java/lang/IllegalStateException" "java/lang/IllegalStateException", .declares dR, .declares dE, .declares dT]) (fun w hw => hts w (List.mem_cons_of_mem _ (List.mem_append_left _ (List.mem_append_right _ hw)))) (by decide +kernel) (vx_c (yc.use hE.2.1.2.1) (vx_c (va_Nw.use rfl hE.1.2.1) (vx_c (va_Nw.use rfl hE.1.2.2.1) (vx_c (va_Nw.use rfl hE.1.2.2.2) vx_n))))) (by decide +kernel) hH.1 hH.2 hS (hl.1.trans hml.symm) dX2_patch_34 dX2_patch_37 dX2_patch_38 dX2_patch_40 dX2_patch_43 (fun x hx => (hout x hx).elim) (Nat.le_of_ble_eq_true rfl) (Nat.le_of_ble_eq_true rfl) (Nat.le_of_ble_eq_true rfl) (Nat.le_of_ble_eq_true rfl) hlocks (fun t _ h1 h2 => ⟨(), trivial, Or.inr (⟨rfl, (by rw [hS9])⟩), h1, fun q hq _ => h2 q hq⟩) (fun z hz => absurd hz List.not_mem_nil) (Nat.le_of_ble_eq_true rfl) (Nat.le_of_ble_eq_true rfl)
  · skip
    have hS9 : S_patch n F (nI k) = (2, 0, F) := by rw [S_patch, hixk]; exact if_neg (fun q => q.1 c_10)
    obtain ⟨sa, hsa⟩ := hE.2.2.2 (55, "the kite is not torn") (by decide +kernel)
    exact vx_throwS (own := RX2) (cls := "java/lang/IllegalStateException") (text := "the kite is not torn") (names := ["java/lang/RuntimeException", "java/lang/Exception"]) (ik := 39) (is := 55) (ic := 43) (sa := sa) (A := A) hx hb hlt hown (by decide +kernel) (by decide +kernel) (hts (.classLink RX2 39 "java/lang/IllegalStateException") (by decide +kernel)) (hts (.initialized "java/lang/IllegalStateException") (by decide +kernel)) hsa (vx_hat (B := [.castable "java/lang/IllegalStateException" "java/lang/IllegalStateException", .declares dR, .declares dE, .declares dT]) (fun w hw => hts w (List.mem_cons_of_mem _ (List.mem_append_left _ (List.mem_append_right _ hw)))) (by decide +kernel) (vx_c (yc.use hE.2.1.2.1) (vx_c (va_Nw.use rfl hE.1.2.1) (vx_c (va_Nw.use rfl hE.1.2.2.1) (vx_c (va_Nw.use rfl hE.1.2.2.2) vx_n))))) (by decide +kernel) hH.1 hH.2 hS (hl.1.trans hml.symm) dX2_patch_13 dX2_patch_16 dX2_patch_17 dX2_patch_19 dX2_patch_22 (fun x hx => (hout x hx).elim) (Nat.le_of_ble_eq_true rfl) (Nat.le_of_ble_eq_true rfl) (Nat.le_of_ble_eq_true rfl) (Nat.le_of_ble_eq_true rfl) hlocks (fun t _ h1 h2 => ⟨(), trivial, Or.inr (⟨rfl, (by rw [hS9])⟩), h1, fun q hq _ => h2 q hq⟩) (fun z hz => absurd hz List.not_mem_nil) (Nat.le_of_ble_eq_true rfl) (Nat.le_of_ble_eq_true rfl)

set_option maxHeartbeats 4000000 in
set_option maxRecDepth 100000 in
theorem c_X2_lend (l9 : Launch) (hlt : l9.stackTraces = false) (dC : Nat → ClassId) (dI : Nat → Nat → Nat) (sz : Nat) {tK tB : ClassId} (h ak ab af : Nat) (ka kb : Nat → Nat) (n p : Nat) (F : Rows) (its b : Int32) (hI : Inv n p F) : vx_Met l9 yX2_lend wsX2_lend ({ frames := 7, cells := 3, slots := 18, locals := 104 }) (va_Pc [.ref h, .int its, .int b] (PWr dC dI [(tK, .object "Windlane$Kite"), (tB, .object "Windlane$Borrower")] (cW tK tB h ak ab af ka kb n p F) sz)) (cQv dC dI tK tB h ak ab af (va_A (cW tK tB h ak ab af ka kb n p F) sz) n p ((S_lend n p F its b).2) ((S_lend n p F its b).1)) (vx_X (fun _ : Unit => True) (fun E _ _ => (E = "java/lang/IndexOutOfBoundsException" ∧ (S_lend n p F its b).1 = 1) ∨ (E = "java/lang/IllegalStateException" ∧ (S_lend n p F its b).1 = 2)) (fun _ => False)) 3 18 (va_A (cW tK tB h ak ab af ka kb n p F) sz) := by
  refine vx_ofW (cc := cX2_lend) (maxL := 5) (ret := none) (by decide) rfl ?_
  intro p9 e9 s m args below meth c s₁ B hml hout hv
  obtain ⟨rfl, hsz, hP, hK, hD0, hE, hH⟩ := hv
  have hx := B.exec
  have hb := B.bytes
  have hr := B.returns
  have hts := atoms_spec (ws := wsX2_lend) B.pre
  have hown : s.vm.findClass RX2 = some m.cls := findClass_of_methodNamed B.named
  have hlocks := B.notSynchronized
  have hi0 : ∀ w ∈ u_ws RX0 TX0 2, w ∈ wsX2_lend := by decide +kernel
  have hi1 : ∀ w ∈ u_ws RX1 TX1 9, w ∈ wsX2_lend := by decide +kernel
  have lk86 := hts (.fieldLink RX2 86 "Windlane$Kite" "borrower" "I") (by decide +kernel)
  have lk89 := hts (.fieldLink RX2 89 "Windlane$Borrower" "held" "LWindlane$Kite;") (by decide +kernel)
  subst hsz
  have hD := hD0.self (sz := s.heap.size)
  generalize hAe : va_A (cW tK tB h ak ab af ka kb n p F) s.heap.size = A at hD hH ⊢
  have hA : ∀ q : Nat, s.heap.size ≤ q → A q := fun q h => by rw [← hAe]; exact Or.inr h
  have hS : va_S A s.heap s.heap [] := va_S.rf
  have hP : va_P (dC, dI) vwCl (cW tK tB h ak ab af ka kb n p F) s.heap := hP
  have hn8 : n ≤ 8 := hI.1.1
  have hp8 : p ≤ 8 := hI.1.2
  have hl := lv_entry ([.ref h, .int its, .int b]) (n := 5) (Nat.le_of_ble_eq_true rfl)
  rw [lg_entry_eq]
  generalize (lg_sl ([.ref h, .int its, .int b]) ++ List.replicate (5 - (lg_sl ([.ref h, .int its, .int b])).length) Slot.unset).toArray = ls at hl ⊢
  have hl : lv_has ls 5 [(0, .ref h), (1, .int its), (2, .int b)] := hl
  refine lv_aload_n hx hb dX2_lend_0 rfl (lv_at hl 0 rfl) ?_
  refine lv_iload_n hx hb dX2_lend_1 rfl (lv_at hl 1 rfl) ?_
  refine my_callXq (vx_runV (As := [.int its]) (rest := []) ⟨hx, hb, hml, hown, hts⟩ (c_X2_kiteAt l9 hlt dC dI s.heap.size h ak ab af ka kb n p F its hI.1.1) (cwV 1 hts gX2_lend_X2_kiteAt rfl rfl rfl (by decide +kernel) ⟨Nat.le_of_ble_eq_true rfl, Nat.le_of_ble_eq_true rfl⟩) ⟨PWr.blind, va_recv hK hP (ci := 2) (q0 := 0) rfl rfl, PWr.pre hP hK hD hE (hH.narrow (A_in hD hS hA))⟩ rfl rfl hl.1 rfl (lv_room (Nat.le_of_ble_eq_true rfl)) dX2_lend_2 ⟨Nat.le_of_ble_eq_true rfl, Nat.le_of_ble_eq_true rfl⟩) (fun E ce q9 H1 hBE hz1 hk1 hce hcv hcl => vx_out (fun x hx => (hout x hx).elim) hlocks hce hcv hcl (fun t ht _ => ⟨(), trivial, Or.inl (⟨hBE.1, by rw [S_lend, ix_f hBE.2]⟩), by rw [ht]; exact hz1, fun q hq _ => by rw [ht]; exact hk1 q hq⟩) (fun z hz => absurd hz List.not_mem_nil) (Nat.le_of_ble_eq_true rfl) (Nat.le_of_ble_eq_true rfl)) (fun r9 hr9 => ?_)
  obtain ⟨k, hkn, rfl, rfl⟩ := hr9
  have hixk : ix n (nI k) = some k := ix_t hkn (by omega)
  have hl : lv_has ls 5 [(0, .ref h), (1, .int (nI k)), (2, .int b)] := hl
  refine W_top (x := va_rf (some (ka k))) (y := .ref (ka k)) rfl ?_
  refine lv_astore_n (lv' := [(3, .ref (ka k)), (0, .ref h), (1, .int (nI k)), (2, .int b)]) hx hb dX2_lend_5 rfl hl (by decide) rfl (fun ls hl => ?_)
  refine lv_aload_n hx hb dX2_lend_6 rfl (lv_at hl 1 rfl) ?_
  refine lv_iload_n hx hb dX2_lend_7 rfl (lv_at hl 3 rfl) ?_
  refine my_callXq (vx_runV (As := [.int b]) (rest := []) ⟨hx, hb, hml, hown, hts⟩ (c_X2_borrowerAt l9 hlt dC dI s.heap.size h ak ab af ka kb n p F b hI.1.2) (cwV 1 hts gX2_lend_X2_borrowerAt rfl rfl rfl (by decide +kernel) ⟨Nat.le_of_ble_eq_true rfl, Nat.le_of_ble_eq_true rfl⟩) ⟨PWr.blind, va_recv hK hP (ci := 2) (q0 := 0) rfl rfl, PWr.pre hP hK hD hE (hH.narrow (A_in hD hS hA))⟩ rfl rfl hl.1 rfl (lv_room (Nat.le_of_ble_eq_true rfl)) dX2_lend_8 ⟨Nat.le_of_ble_eq_true rfl, Nat.le_of_ble_eq_true rfl⟩) (fun E ce q9 H1 hBE hz1 hk1 hce hcv hcl => vx_out (fun x hx => (hout x hx).elim) hlocks hce hcv hcl (fun t ht _ => ⟨(), trivial, Or.inl (⟨hBE.1, by rw [S_lend, hixk, ix_f hBE.2]⟩), by rw [ht]; exact hz1, fun q hq _ => by rw [ht]; exact hk1 q hq⟩) (fun z hz => absurd hz List.not_mem_nil) (Nat.le_of_ble_eq_true rfl) (Nat.le_of_ble_eq_true rfl)) (fun r9 hr9 => ?_)
  obtain ⟨j, hjn, rfl, rfl⟩ := hr9
  have hixj : ix p (nI j) = some j := ix_t hjn (by omega)
  have hl : lv_has ls 5 [(3, .ref (ka k)), (0, .ref h), (1, .int (nI k)), (2, .int (nI j))] := hl
  refine W_top (x := va_rf (some (kb j))) (y := .ref (kb j)) rfl ?_
  refine lv_astore (lv' := [(4, .ref (kb j)), (3, .ref (ka k)), (0, .ref h), (1, .int (nI k)), (2, .int (nI j))]) hx hb dX2_lend_11 hl (by decide) rfl (fun ls hl => ?_)
  refine lv_aload_n hx hb dX2_lend_13 rfl (lv_at hl 1 rfl) ?_
  have hq1 := one_P hP (cG_k hkn)
  refine vp_callSi (va_Run.run (va_runV (As := []) (rest := []) ⟨hx, hb, hml, hown, hts⟩ (c_X1_isLendable l9 dC dI (ka k) k F) (cwV 0 hts gX2_lend_X1_isLendable rfl rfl rfl (by decide +kernel) ⟨Nat.le_of_ble_eq_true rfl, Nat.le_of_ble_eq_true rfl⟩) ⟨PRo.blind, va_recv (hK.sub (tys' := []) [] rfl) hq1 (ci := 1) (q0 := 0) rfl rfl, PRo.pre hq1 (hK.sub (tys' := []) [] rfl) hE⟩ rfl rfl hl.1 rfl (lv_room (Nat.le_of_ble_eq_true rfl)) dX2_lend_14 ⟨Nat.le_of_ble_eq_true rfl, Nat.le_of_ble_eq_true rfl⟩)) (fun r hr => ?_)
  subst hr
  refine lv_if_eq (tgt := 29) hx hb dX2_lend_17 (by decide) (fun c_17 => ?_) (fun c_17 => ?_)
  · skip
    have c_17 := bi_z.mp c_17
    have hS9 : S_lend n p F (nI k) (nI j) = (2, F) := by rw [S_lend, hixk]; show (match ix p (nI j) with | none => _ | some j => _) = _; rw [hixj]; exact if_neg (fun q => c_17 ⟨q.1, q.2.1, q.2.2.1⟩)
    obtain ⟨sa, hsa⟩ := hE.2.2.2 (84, "the kite cannot be lent to this borrower") (by decide +kernel)
    exact vx_throwS (own := RX2) (cls := "java/lang/IllegalStateException") (text := "the kite cannot be lent to this borrower") (names := ["java/lang/RuntimeException", "java/lang/Exception"]) (ik := 39) (is := 84) (ic := 43) (sa := sa) (A := A) hx hb hlt hown (by decide +kernel) (by decide +kernel) (hts (.classLink RX2 39 "java/lang/IllegalStateException") (by decide +kernel)) (hts (.initialized "java/lang/IllegalStateException") (by decide +kernel)) hsa (vx_hat (B := [.castable "java/lang/IllegalStateException" "java/lang/IllegalStateException", .declares dR, .declares dE, .declares dT]) (fun w hw => hts w (List.mem_cons_of_mem _ (List.mem_append_left _ (List.mem_append_right _ hw)))) (by decide +kernel) (vx_c (yc.use hE.2.1.2.1) (vx_c (va_Nw.use rfl hE.1.2.1) (vx_c (va_Nw.use rfl hE.1.2.2.1) (vx_c (va_Nw.use rfl hE.1.2.2.2) vx_n))))) (by decide +kernel) hH.1 hH.2 hS (hl.1.trans hml.symm) dX2_lend_29 dX2_lend_32 dX2_lend_33 dX2_lend_35 dX2_lend_38 (fun x hx => (hout x hx).elim) (Nat.le_of_ble_eq_true rfl) (Nat.le_of_ble_eq_true rfl) (Nat.le_of_ble_eq_true rfl) (Nat.le_of_ble_eq_true rfl) hlocks (fun t _ h1 h2 => ⟨(), trivial, Or.inr (⟨rfl, (by rw [hS9])⟩), h1, fun q hq _ => h2 q hq⟩) (fun z hz => absurd hz List.not_mem_nil) (Nat.le_of_ble_eq_true rfl) (Nat.le_of_ble_eq_true rfl)
  · skip
    have c_17 := bi_nz.mp c_17
    refine lv_aload hx hb dX2_lend_20 (lv_at hl 0 rfl) ?_
    refine lv_aload_n hx hb dX2_lend_22 rfl (lv_at hl 1 rfl) ?_
    have hq2 := two_P hP (cG_b hjn) (cG_k hkn)
    refine vp_callSi (va_Run.run (va_runV (As := [.ref (ka k)]) (rest := []) ⟨hx, hb, hml, hown, hts⟩ (c_X0_canTake l9 dC dI (kb j) (ka k) k F (F 8 j) ((hbF F n j).map ka)) (cwV 1 hts gX2_lend_X0_canTake rfl rfl rfl (by decide +kernel) ⟨Nat.le_of_ble_eq_true rfl, Nat.le_of_ble_eq_true rfl⟩) ⟨PRo.blind, va_recv (hK.sub (tys' := []) [] rfl) hq2 (ci := 0) (q0 := 0) rfl rfl, PRo.pre hq2 (hK.sub (tys' := []) [] rfl) hE⟩ rfl rfl hl.1 rfl (lv_room (Nat.le_of_ble_eq_true rfl)) dX2_lend_23 ⟨Nat.le_of_ble_eq_true rfl, Nat.le_of_ble_eq_true rfl⟩)) (fun r hr => ?_)
    subst hr
    refine lv_if_ne (tgt := 39) hx hb dX2_lend_26 (by decide) (fun c_26 => ?_) (fun c_26 => ?_)
    · skip
      have c_26 := bi_nz.mp c_26
      refine lv_aload_n hx hb dX2_lend_39 rfl (lv_at hl 1 rfl) ?_
      refine lv_iload_n hx hb dX2_lend_40 rfl (lv_at hl 4 rfl) ?_
      refine va_put (D := (dC, dI)) (ci := 1) (v := .int (nI j)) (ty := .int) (C := RX1) (T := TX1) (N := 9) hx hb hts hi1 tyX1 tyX1_ok nmX1 hown hK hP hD hS (k + 4) (cG_k hkn) rfl 6 (by decide) lk86 (fun _ h9 => h9) rfl (by decide +kernel) rfl rfl (Nat.le_of_ble_eq_true rfl) dX2_lend_41 (fun H locs hP hD hS => ?_)
      have hP : va_P (dC, dI) vwCl (cG tK tB h ak ab af ka kb n p (up F 5 k (nI j)) (flF F n) (hbF F n)) H := P_eq (putk (i := 5) (v := nI j) hkn (by decide) (kE_up5 F k _)) hP
      have hD : va_D A (cG tK tB h ak ab af ka kb n p (up F 5 k (nI j)) (flF F n) (hbF F n)) := D_eq (putk (i := 5) (v := nI j) hkn (by decide) (kE_up5 F k _)) hD
      refine lv_aload hx hb dX2_lend_44 (lv_at hl 0 rfl) ?_
      refine lv_aload_n hx hb dX2_lend_46 rfl (lv_at hl 1 rfl) ?_
      have hj8 : j < 8 := by omega
      have hkf : lk (F 5) n (nI j) = none := by have q := c_26.1; rw [hbF_at hj8] at q; cases hq : lk (F 5) n (nI j) with | none => rfl | some a => rw [hq] at q; cases q
      refine va_put (D := (dC, dI)) (ci := 0) (v := .ref (ka k)) (ty := .object "Windlane$Kite") (C := RX0) (T := TX0) (N := 2) hx hb hts hi0 tyX0 tyX0_ok nmX0 hown hK hP hD hS (n + j + 4) (cG_b hjn) rfl 1 (by decide) lk89 (fun _ h9 => h9) rfl (by decide +kernel) rfl rfl (Nat.le_of_ble_eq_true rfl) dX2_lend_47 (fun H locs hP hD hS => ?_)
      have hP : va_P (dC, dI) vwCl (cW tK tB h ak ab af ka kb n p (up F 5 k (nI j))) H := P_eq ((cG_setb (o := some k) hjn).trans (cG_flhb (flF_up (by decide)).symm (fun j9 _ => hbF_take hj8 hkn c_17.1 hkf j9))) hP
      have hD : va_D A (cW tK tB h ak ab af ka kb n p (up F 5 k (nI j))) := D_eq ((cG_setb (o := some k) hjn).trans (cG_flhb (flF_up (by decide)).symm (fun j9 _ => hbF_take hj8 hkn c_17.1 hkf j9))) hD
      have hS9 : S_lend n p F (nI k) (nI j) = (0, up F 5 k (nI j)) := by rw [S_lend, hixk]; show (match ix p (nI j) with | none => _ | some j => _) = _; rw [hixj]; exact if_pos ⟨c_17.1, c_17.2.1, c_17.2.2, hkf, c_26.2⟩
      refine vx_ret ?_
      refine W.widen (k := 3) (n := 18) (Nat.le_of_ble_eq_true rfl) (Nat.le_of_ble_eq_true rfl) ?_
      exact W.vret hx hb hr (fun t ht hW => cQv_mk ka kb (by rw [hS9]) (by rw [hS9, ht]; exact hP) (by rw [hS9]; exact hD) (hS.F ht)) hS.2.2 dX2_lend_50
    · skip
      have c_26 := bi_z.mp c_26
      have hS9 : S_lend n p F (nI k) (nI j) = (2, F) := by rw [S_lend, hixk]; show (match ix p (nI j) with | none => _ | some j => _) = _; rw [hixj]; exact if_neg (fun q => c_26 ⟨by rw [hbF_at (by omega), q.2.2.2.1]; rfl, q.2.2.2.2⟩)
      obtain ⟨sa, hsa⟩ := hE.2.2.2 (84, "the kite cannot be lent to this borrower") (by decide +kernel)
      exact vx_throwS (own := RX2) (cls := "java/lang/IllegalStateException") (text := "the kite cannot be lent to this borrower") (names := ["java/lang/RuntimeException", "java/lang/Exception"]) (ik := 39) (is := 84) (ic := 43) (sa := sa) (A := A) hx hb hlt hown (by decide +kernel) (by decide +kernel) (hts (.classLink RX2 39 "java/lang/IllegalStateException") (by decide +kernel)) (hts (.initialized "java/lang/IllegalStateException") (by decide +kernel)) hsa (vx_hat (B := [.castable "java/lang/IllegalStateException" "java/lang/IllegalStateException", .declares dR, .declares dE, .declares dT]) (fun w hw => hts w (List.mem_cons_of_mem _ (List.mem_append_left _ (List.mem_append_right _ hw)))) (by decide +kernel) (vx_c (yc.use hE.2.1.2.1) (vx_c (va_Nw.use rfl hE.1.2.1) (vx_c (va_Nw.use rfl hE.1.2.2.1) (vx_c (va_Nw.use rfl hE.1.2.2.2) vx_n))))) (by decide +kernel) hH.1 hH.2 hS (hl.1.trans hml.symm) dX2_lend_29 dX2_lend_32 dX2_lend_33 dX2_lend_35 dX2_lend_38 (fun x hx => (hout x hx).elim) (Nat.le_of_ble_eq_true rfl) (Nat.le_of_ble_eq_true rfl) (Nat.le_of_ble_eq_true rfl) (Nat.le_of_ble_eq_true rfl) hlocks (fun t _ h1 h2 => ⟨(), trivial, Or.inr (⟨rfl, (by rw [hS9])⟩), h1, fun q hq _ => h2 q hq⟩) (fun z hz => absurd hz List.not_mem_nil) (Nat.le_of_ble_eq_true rfl) (Nat.le_of_ble_eq_true rfl)

set_option maxHeartbeats 4000000 in
set_option maxRecDepth 100000 in
theorem c_X2_giveBack (l9 : Launch) (hlt : l9.stackTraces = false) (dC : Nat → ClassId) (dI : Nat → Nat → Nat) (sz : Nat) {tK tB : ClassId} (h ak ab af : Nat) (ka kb : Nat → Nat) (n p : Nat) (F : Rows) (b : Int32) (hI : Inv n p F) : vx_Met l9 yX2_giveBack wsX2_giveBack ({ frames := 7, cells := 2, slots := 12, locals := 104 }) (va_Pc [.ref h, .int b] (PWr dC dI [(tK, .object "Windlane$Kite"), (tB, .object "Windlane$Borrower")] (cW tK tB h ak ab af ka kb n p F) sz)) (cQ dC dI tK tB h ak ab af (va_A (cW tK tB h ak ab af ka kb n p F) sz) n p ((S_giveBack n p F b).2.2) ((S_giveBack n p F b).1) ((S_giveBack n p F b).2.1)) (vx_X (fun _ : Unit => True) (fun E _ _ => (E = "java/lang/IndexOutOfBoundsException" ∧ (S_giveBack n p F b).1 = 1) ∨ (E = "java/lang/IllegalStateException" ∧ (S_giveBack n p F b).1 = 2)) (fun _ => False)) 2 12 (va_A (cW tK tB h ak ab af ka kb n p F) sz) := by
  refine vx_ofW (cc := cX2_giveBack) (maxL := 4) (ret := (some .int)) (by decide) rfl ?_
  intro p9 e9 s m args below meth c s₁ B hml hout hv
  obtain ⟨rfl, hsz, hP, hK, hD0, hE, hH⟩ := hv
  have hx := B.exec
  have hb := B.bytes
  have hr := B.returns
  have hts := atoms_spec (ws := wsX2_giveBack) B.pre
  have hown : s.vm.findClass RX2 = some m.cls := findClass_of_methodNamed B.named
  have hlocks := B.notSynchronized
  have hi0 : ∀ w ∈ u_ws RX0 TX0 2, w ∈ wsX2_giveBack := by decide +kernel
  have hi1 : ∀ w ∈ u_ws RX1 TX1 9, w ∈ wsX2_giveBack := by decide +kernel
  have lk86 := hts (.fieldLink RX2 86 "Windlane$Kite" "borrower" "I") (by decide +kernel)
  have lk89 := hts (.fieldLink RX2 89 "Windlane$Borrower" "held" "LWindlane$Kite;") (by decide +kernel)
  have lk98 := hts (.fieldLink RX2 98 "Windlane$Kite" "number" "I") (by decide +kernel)
  subst hsz
  have hD := hD0.self (sz := s.heap.size)
  generalize hAe : va_A (cW tK tB h ak ab af ka kb n p F) s.heap.size = A at hD hH ⊢
  have hA : ∀ q : Nat, s.heap.size ≤ q → A q := fun q h => by rw [← hAe]; exact Or.inr h
  have hS : va_S A s.heap s.heap [] := va_S.rf
  have hP : va_P (dC, dI) vwCl (cW tK tB h ak ab af ka kb n p F) s.heap := hP
  have hn8 : n ≤ 8 := hI.1.1
  have hp8 : p ≤ 8 := hI.1.2
  have hl := lv_entry ([.ref h, .int b]) (n := 4) (Nat.le_of_ble_eq_true rfl)
  rw [lg_entry_eq]
  generalize (lg_sl ([.ref h, .int b]) ++ List.replicate (4 - (lg_sl ([.ref h, .int b])).length) Slot.unset).toArray = ls at hl ⊢
  have hl : lv_has ls 4 [(0, .ref h), (1, .int b)] := hl
  refine lv_aload_n hx hb dX2_giveBack_0 rfl (lv_at hl 0 rfl) ?_
  refine lv_iload_n hx hb dX2_giveBack_1 rfl (lv_at hl 1 rfl) ?_
  refine my_callXq (vx_runV (As := [.int b]) (rest := []) ⟨hx, hb, hml, hown, hts⟩ (c_X2_borrowerAt l9 hlt dC dI s.heap.size h ak ab af ka kb n p F b hI.1.2) (cwV 1 hts gX2_giveBack_X2_borrowerAt rfl rfl rfl (by decide +kernel) ⟨Nat.le_of_ble_eq_true rfl, Nat.le_of_ble_eq_true rfl⟩) ⟨PWr.blind, va_recv hK hP (ci := 2) (q0 := 0) rfl rfl, PWr.pre hP hK hD hE (hH.narrow (A_in hD hS hA))⟩ rfl rfl hl.1 rfl (lv_room (Nat.le_of_ble_eq_true rfl)) dX2_giveBack_2 ⟨Nat.le_of_ble_eq_true rfl, Nat.le_of_ble_eq_true rfl⟩) (fun E ce q9 H1 hBE hz1 hk1 hce hcv hcl => vx_out (fun x hx => (hout x hx).elim) hlocks hce hcv hcl (fun t ht _ => ⟨(), trivial, Or.inl (⟨hBE.1, by rw [S_giveBack, ix_f hBE.2]⟩), by rw [ht]; exact hz1, fun q hq _ => by rw [ht]; exact hk1 q hq⟩) (fun z hz => absurd hz List.not_mem_nil) (Nat.le_of_ble_eq_true rfl) (Nat.le_of_ble_eq_true rfl)) (fun r9 hr9 => ?_)
  obtain ⟨j, hjn, rfl, rfl⟩ := hr9
  have hixj : ix p (nI j) = some j := ix_t hjn (by omega)
  have hl : lv_has ls 4 [(0, .ref h), (1, .int (nI j))] := hl
  refine W_top (x := va_rf (some (kb j))) (y := .ref (kb j)) rfl ?_
  refine lv_astore_n (lv' := [(2, .ref (kb j)), (0, .ref h), (1, .int (nI j))]) hx hb dX2_giveBack_5 rfl hl (by decide) rfl (fun ls hl => ?_)
  refine lv_aload_n hx hb dX2_giveBack_6 rfl (lv_at hl 0 rfl) ?_
  refine va_get (D := (dC, dI)) (ci := 0) (v := va_rf ((hbF F n j).map ka)) (C := RX0) (T := TX0) (N := 2) hx hb hts hi0 hown hK hP (n + j + 4) (cG_b hjn) rfl 1 (by decide) lk89 (fun _ h9 => h9) rfl dX2_giveBack_7 ?_
  have hj8 : j < 8 := by have := hI.1.2; omega
  rcases hlk : lk (F 5) n (nI j) with _ | k
  · skip
    refine W_top (y := .null) (show va_rf ((hbF F n j).map ka) = _ by rw [hbF_at hj8, hlk]; rfl) ?_
    refine lv_astore_nN (lv' := [(3, .null), (2, .ref (kb j)), (0, .ref h), (1, .int (nI j))]) hx hb dX2_giveBack_10 rfl hl (by decide) rfl (fun ls hl => ?_)
    refine lv_aload_nN hx hb dX2_giveBack_11 rfl (lv_at hl 0 rfl) ?_
    refine lv_ifnullN (tgt := 22) hx hb dX2_giveBack_12 (by decide) ?_
    have hS9 : S_giveBack n p F (nI j) = (2, 0, F) := by rw [S_giveBack, hixj]; show (match lk (F 5) n (nI j) with | none => _ | some k => _) = _; rw [hlk]
    obtain ⟨sa, hsa⟩ := hE.2.2.2 (96, "the borrower has no kite that could be given back") (by decide +kernel)
    exact vx_throwS (own := RX2) (cls := "java/lang/IllegalStateException") (text := "the borrower has no kite that could be given back") (names := ["java/lang/RuntimeException", "java/lang/Exception"]) (ik := 39) (is := 96) (ic := 43) (sa := sa) (A := A) hx hb hlt hown (by decide +kernel) (by decide +kernel) (hts (.classLink RX2 39 "java/lang/IllegalStateException") (by decide +kernel)) (hts (.initialized "java/lang/IllegalStateException") (by decide +kernel)) hsa (vx_hat (B := [.castable "java/lang/IllegalStateException" "java/lang/IllegalStateException", .declares dR, .declares dE, .declares dT]) (fun w hw => hts w (List.mem_cons_of_mem _ (List.mem_append_left _ (List.mem_append_right _ hw)))) (by decide +kernel) (vx_c (yc.use hE.2.1.2.1) (vx_c (va_Nw.use rfl hE.1.2.1) (vx_c (va_Nw.use rfl hE.1.2.2.1) (vx_c (va_Nw.use rfl hE.1.2.2.2) vx_n))))) (by decide +kernel) hH.1 hH.2 hS (hl.1.trans hml.symm) dX2_giveBack_22 dX2_giveBack_25 dX2_giveBack_26 dX2_giveBack_28 dX2_giveBack_31 (fun x hx => (hout x hx).elim) (Nat.le_of_ble_eq_true rfl) (Nat.le_of_ble_eq_true rfl) (Nat.le_of_ble_eq_true rfl) (Nat.le_of_ble_eq_true rfl) hlocks (fun t _ h1 h2 => ⟨(), trivial, Or.inr (⟨rfl, (by rw [hS9])⟩), h1, fun q hq _ => h2 q hq⟩) (fun z hz => absurd hz List.not_mem_nil) (Nat.le_of_ble_eq_true rfl) (Nat.le_of_ble_eq_true rfl)
  · skip
    refine W_top (y := .ref (ka k)) (show va_rf ((hbF F n j).map ka) = _ by rw [hbF_at hj8, hlk]; rfl) ?_
    obtain ⟨hkn, hk5⟩ := lk_some hlk
    refine lv_astore_n (lv' := [(3, .ref (ka k)), (2, .ref (kb j)), (0, .ref h), (1, .int (nI j))]) hx hb dX2_giveBack_10 rfl hl (by decide) rfl (fun ls hl => ?_)
    refine lv_aload_n hx hb dX2_giveBack_11 rfl (lv_at hl 0 rfl) ?_
    refine lv_ifnull hx hb dX2_giveBack_12 ?_
    refine lv_aload_n hx hb dX2_giveBack_15 rfl (lv_at hl 0 rfl) ?_
    have hq1 := one_P hP (cG_k hkn)
    refine vp_callSi (va_Run.run (va_runV (As := []) (rest := []) ⟨hx, hb, hml, hown, hts⟩ (c_X1_isFlying l9 dC dI (ka k) k F) (cwV 0 hts gX2_giveBack_X1_isFlying rfl rfl rfl (by decide +kernel) ⟨Nat.le_of_ble_eq_true rfl, Nat.le_of_ble_eq_true rfl⟩) ⟨PRo.blind, va_recv (hK.sub (tys' := []) [] rfl) hq1 (ci := 1) (q0 := 0) rfl rfl, PRo.pre hq1 (hK.sub (tys' := []) [] rfl) hE⟩ rfl rfl hl.1 rfl (lv_room (Nat.le_of_ble_eq_true rfl)) dX2_giveBack_16 ⟨Nat.le_of_ble_eq_true rfl, Nat.le_of_ble_eq_true rfl⟩)) (fun r hr => ?_)
    subst hr
    refine lv_if_eq (tgt := 32) hx hb dX2_giveBack_19 (by decide) (fun c_19 => ?_) (fun c_19 => ?_)
    · skip
      have c_19 := bi_z.mp c_19
      refine lv_aload_n hx hb dX2_giveBack_32 rfl (lv_at hl 1 rfl) ?_
      refine lv_null hx hb dX2_giveBack_33 ?_
      refine va_put (D := (dC, dI)) (ci := 0) (v := .null) (ty := .object "Windlane$Kite") (C := RX0) (T := TX0) (N := 2) hx hb hts hi0 tyX0 tyX0_ok nmX0 hown hK hP hD hS (n + j + 4) (cG_b hjn) rfl 1 (by decide) lk89 (fun _ h9 => h9) rfl (by decide +kernel) rfl rfl (Nat.le_of_ble_eq_true rfl) dX2_giveBack_34 (fun H locs hP hD hS => ?_)
      have hu5 := uq_lk hI.2.2.2.1.1 (nI_m1 (by omega)) hlk
      have hP : va_P (dC, dI) vwCl (cG tK tB h ak ab af ka kb n p F (flF F n) (va_up (hbF F n) j none)) H := P_eq (cG_setb (o := none) hjn) hP
      have hD : va_D A (cG tK tB h ak ab af ka kb n p F (flF F n) (va_up (hbF F n) j none)) := D_eq (cG_setb (o := none) hjn) hD
      refine lv_aload_n hx hb dX2_giveBack_37 rfl (lv_at hl 0 rfl) ?_
      refine lv_iconst (v := (-1)) hx hb dX2_giveBack_38 (by decide) ?_
      refine va_put (D := (dC, dI)) (ci := 1) (v := .int (-1)) (ty := .int) (C := RX1) (T := TX1) (N := 9) hx hb hts hi1 tyX1 tyX1_ok nmX1 hown hK hP hD hS (k + 4) (cG_k hkn) rfl 6 (by decide) lk86 (fun _ h9 => h9) rfl (by decide +kernel) rfl rfl (Nat.le_of_ble_eq_true rfl) dX2_giveBack_39 (fun H locs hP hD hS => ?_)
      have hP : va_P (dC, dI) vwCl (cG tK tB h ak ab af ka kb n p (up F 5 k (-1)) (flF F n) (va_up (hbF F n) j none)) H := P_eq (putk (i := 5) (v := (-1)) hkn (by decide) (kE_up5 F k _)) hP
      have hD : va_D A (cG tK tB h ak ab af ka kb n p (up F 5 k (-1)) (flF F n) (va_up (hbF F n) j none)) := D_eq (putk (i := 5) (v := (-1)) hkn (by decide) (kE_up5 F k _)) hD
      have hP : va_P (dC, dI) vwCl (cW tK tB h ak ab af ka kb n p (up F 5 k (-1))) H := P_eq (cG_flhb (flF_up (by decide)).symm (fun j9 _ => hbF_drop hj8 hk5 hu5 j9)) hP
      have hD : va_D A (cW tK tB h ak ab af ka kb n p (up F 5 k (-1))) := D_eq (cG_flhb (flF_up (by decide)).symm (fun j9 _ => hbF_drop hj8 hk5 hu5 j9)) hD
      refine lv_aload_n hx hb dX2_giveBack_42 rfl (lv_at hl 0 rfl) ?_
      refine va_get (D := (dC, dI)) (ci := 1) (v := .int (nI k)) (C := RX1) (T := TX1) (N := 9) hx hb hts hi1 hown hK hP (k + 4) (cG_k hkn) rfl 0 (by decide) lk98 (fun _ h9 => h9) rfl dX2_giveBack_43 ?_
      have hS9 : S_giveBack n p F (nI j) = (0, nI k, up F 5 k (-1)) := by rw [S_giveBack, hixj]; show (match lk (F 5) n (nI j) with | none => _ | some k => _) = _; rw [hlk]; exact if_pos (Decidable.not_not.mp c_19)
      refine vx_ret ?_
      refine W.widen (k := 2) (n := 12) (Nat.le_of_ble_eq_true rfl) (Nat.le_of_ble_eq_true rfl) ?_
      exact W.iret (v := nI k) hx hb hr (fun t ht hW => cQ_mk ka kb (by rw [hS9]) (by rw [hS9]) (by rw [hS9, ht]; exact hP) (by rw [hS9]; exact hD) (hS.F ht)) hS.2.2 dX2_giveBack_46
    · skip
      have c_19 := bi_nz.mp c_19
      have hS9 : S_giveBack n p F (nI j) = (2, 0, F) := by rw [S_giveBack, hixj]; show (match lk (F 5) n (nI j) with | none => _ | some k => _) = _; rw [hlk]; exact if_neg c_19
      obtain ⟨sa, hsa⟩ := hE.2.2.2 (96, "the borrower has no kite that could be given back") (by decide +kernel)
      exact vx_throwS (own := RX2) (cls := "java/lang/IllegalStateException") (text := "the borrower has no kite that could be given back") (names := ["java/lang/RuntimeException", "java/lang/Exception"]) (ik := 39) (is := 96) (ic := 43) (sa := sa) (A := A) hx hb hlt hown (by decide +kernel) (by decide +kernel) (hts (.classLink RX2 39 "java/lang/IllegalStateException") (by decide +kernel)) (hts (.initialized "java/lang/IllegalStateException") (by decide +kernel)) hsa (vx_hat (B := [.castable "java/lang/IllegalStateException" "java/lang/IllegalStateException", .declares dR, .declares dE, .declares dT]) (fun w hw => hts w (List.mem_cons_of_mem _ (List.mem_append_left _ (List.mem_append_right _ hw)))) (by decide +kernel) (vx_c (yc.use hE.2.1.2.1) (vx_c (va_Nw.use rfl hE.1.2.1) (vx_c (va_Nw.use rfl hE.1.2.2.1) (vx_c (va_Nw.use rfl hE.1.2.2.2) vx_n))))) (by decide +kernel) hH.1 hH.2 hS (hl.1.trans hml.symm) dX2_giveBack_22 dX2_giveBack_25 dX2_giveBack_26 dX2_giveBack_28 dX2_giveBack_31 (fun x hx => (hout x hx).elim) (Nat.le_of_ble_eq_true rfl) (Nat.le_of_ble_eq_true rfl) (Nat.le_of_ble_eq_true rfl) (Nat.le_of_ble_eq_true rfl) hlocks (fun t _ h1 h2 => ⟨(), trivial, Or.inr (⟨rfl, (by rw [hS9])⟩), h1, fun q hq _ => h2 q hq⟩) (fun z hz => absurd hz List.not_mem_nil) (Nat.le_of_ble_eq_true rfl) (Nat.le_of_ble_eq_true rfl)

set_option maxHeartbeats 4000000 in
set_option maxRecDepth 100000 in
theorem c_X2_land (l9 : Launch) (hlt : l9.stackTraces = false) (dC : Nat → ClassId) (dI : Nat → Nat → Nat) (sz : Nat) {tK tB : ClassId} (h ak ab af : Nat) (ka kb : Nat → Nat) (n p : Nat) (F : Rows) (its : Int32) (hI : Inv n p F) : vx_Met l9 yX2_land wsX2_land ({ frames := 7, cells := 2, slots := 12, locals := 104 }) (va_Pc [.ref h, .int its] (PWr dC dI [(tK, .object "Windlane$Kite"), (tB, .object "Windlane$Borrower")] (cW tK tB h ak ab af ka kb n p F) sz)) (cQ dC dI tK tB h ak ab af (va_A (cW tK tB h ak ab af ka kb n p F) sz) n p ((S_land n F its).2.2) ((S_land n F its).1) ((S_land n F its).2.1)) (vx_X (fun _ : Unit => True) (fun E _ _ => (E = "java/lang/IndexOutOfBoundsException" ∧ (S_land n F its).1 = 1) ∨ (E = "java/lang/IllegalStateException" ∧ (S_land n F its).1 = 2)) (fun _ => False)) 2 12 (va_A (cW tK tB h ak ab af ka kb n p F) sz) := by
  refine vx_ofW (cc := cX2_land) (maxL := 4) (ret := (some .int)) (by decide) rfl ?_
  intro p9 e9 s m args below meth c s₁ B hml hout hv
  obtain ⟨rfl, hsz, hP, hK, hD0, hE, hH⟩ := hv
  have hx := B.exec
  have hb := B.bytes
  have hr := B.returns
  have hts := atoms_spec (ws := wsX2_land) B.pre
  have hown : s.vm.findClass RX2 = some m.cls := findClass_of_methodNamed B.named
  have hlocks := B.notSynchronized
  have hi1 : ∀ w ∈ u_ws RX1 TX1 9, w ∈ wsX2_land := by decide +kernel
  have lk133 := hts (.fieldLink RX2 133 "Windlane$Kite" "lane" "I") (by decide +kernel)
  subst hsz
  have hD := hD0.self (sz := s.heap.size)
  generalize hAe : va_A (cW tK tB h ak ab af ka kb n p F) s.heap.size = A at hD hH ⊢
  have hA : ∀ q : Nat, s.heap.size ≤ q → A q := fun q h => by rw [← hAe]; exact Or.inr h
  have hS : va_S A s.heap s.heap [] := va_S.rf
  have hP : va_P (dC, dI) vwCl (cW tK tB h ak ab af ka kb n p F) s.heap := hP
  have hn8 : n ≤ 8 := hI.1.1
  have hp8 : p ≤ 8 := hI.1.2
  have hl := lv_entry ([.ref h, .int its]) (n := 4) (Nat.le_of_ble_eq_true rfl)
  rw [lg_entry_eq]
  generalize (lg_sl ([.ref h, .int its]) ++ List.replicate (4 - (lg_sl ([.ref h, .int its])).length) Slot.unset).toArray = ls at hl ⊢
  have hl : lv_has ls 4 [(0, .ref h), (1, .int its)] := hl
  refine lv_aload_n hx hb dX2_land_0 rfl (lv_at hl 0 rfl) ?_
  refine lv_iload_n hx hb dX2_land_1 rfl (lv_at hl 1 rfl) ?_
  refine my_callXq (vx_runV (As := [.int its]) (rest := []) ⟨hx, hb, hml, hown, hts⟩ (c_X2_kiteAt l9 hlt dC dI s.heap.size h ak ab af ka kb n p F its hI.1.1) (cwV 1 hts gX2_land_X2_kiteAt rfl rfl rfl (by decide +kernel) ⟨Nat.le_of_ble_eq_true rfl, Nat.le_of_ble_eq_true rfl⟩) ⟨PWr.blind, va_recv hK hP (ci := 2) (q0 := 0) rfl rfl, PWr.pre hP hK hD hE (hH.narrow (A_in hD hS hA))⟩ rfl rfl hl.1 rfl (lv_room (Nat.le_of_ble_eq_true rfl)) dX2_land_2 ⟨Nat.le_of_ble_eq_true rfl, Nat.le_of_ble_eq_true rfl⟩) (fun E ce q9 H1 hBE hz1 hk1 hce hcv hcl => vx_out (fun x hx => (hout x hx).elim) hlocks hce hcv hcl (fun t ht _ => ⟨(), trivial, Or.inl (⟨hBE.1, by rw [S_land, ix_f hBE.2]⟩), by rw [ht]; exact hz1, fun q hq _ => by rw [ht]; exact hk1 q hq⟩) (fun z hz => absurd hz List.not_mem_nil) (Nat.le_of_ble_eq_true rfl) (Nat.le_of_ble_eq_true rfl)) (fun r9 hr9 => ?_)
  obtain ⟨k, hkn, rfl, rfl⟩ := hr9
  have hixk : ix n (nI k) = some k := ix_t hkn (by omega)
  have hl : lv_has ls 4 [(0, .ref h), (1, .int (nI k))] := hl
  refine W_top (x := va_rf (some (ka k))) (y := .ref (ka k)) rfl ?_
  refine lv_astore_n (lv' := [(2, .ref (ka k)), (0, .ref h), (1, .int (nI k))]) hx hb dX2_land_5 rfl hl (by decide) rfl (fun ls hl => ?_)
  refine lv_aload_n hx hb dX2_land_6 rfl (lv_at hl 0 rfl) ?_
  refine va_get (D := (dC, dI)) (ci := 1) (v := .int (F 6 k)) (C := RX1) (T := TX1) (N := 9) hx hb hts hi1 hown hK hP (k + 4) (cG_k hkn) rfl 7 (by decide) lk133 (fun _ h9 => h9) rfl dX2_land_7 ?_
  rcases (hI.2.1 k hkn).2.2.2.2.2.2.1 with hk6 | ⟨l, hl10, hk6⟩
  · skip
    refine W_top (y := .int (-1)) (congrArg Value.int hk6) ?_
    refine lv_istore_n (lv' := [(3, .int (-1)), (2, .ref (ka k)), (0, .ref h), (1, .int (nI k))]) hx hb dX2_land_10 rfl hl (by decide) rfl (fun ls hl => ?_)
    refine lv_iload_n hx hb dX2_land_11 rfl (lv_at hl 0 rfl) ?_
    refine vp_callSi (va_Run.run (va_runS (As := [.int (-1)]) (rest := []) ⟨hx, hb, hml, hown, hts⟩ (c_X2_isLane l9 (-1)) (va_cwS 1 hts gX2_land_X2_isLane rfl rfl rfl (by decide +kernel) ⟨Nat.le_of_ble_eq_true rfl, Nat.le_of_ble_eq_true rfl⟩) ⟨fun a U g mk q => q, fun U hU hW => ⟨rfl, trivial⟩⟩ rfl rfl hl.1 rfl (lv_room (Nat.le_of_ble_eq_true rfl)) dX2_land_12 ⟨Nat.le_of_ble_eq_true rfl, Nat.le_of_ble_eq_true rfl⟩)) (fun r hr => ?_)
    subst hr
    refine lv_if_ne (tgt := 28) hx hb dX2_land_15 (by decide) (fun c_15 => absurd (bi_f (by decide)) c_15) (fun _ => ?_)
    have hS9 : S_land n F (nI k) = (2, 0, F) := by rw [S_land, hixk]; exact if_pos hk6
    obtain ⟨sa, hsa⟩ := hE.2.2.2 (139, "the kite is not flying") (by decide +kernel)
    exact vx_throwS (own := RX2) (cls := "java/lang/IllegalStateException") (text := "the kite is not flying") (names := ["java/lang/RuntimeException", "java/lang/Exception"]) (ik := 39) (is := 139) (ic := 43) (sa := sa) (A := A) hx hb hlt hown (by decide +kernel) (by decide +kernel) (hts (.classLink RX2 39 "java/lang/IllegalStateException") (by decide +kernel)) (hts (.initialized "java/lang/IllegalStateException") (by decide +kernel)) hsa (vx_hat (B := [.castable "java/lang/IllegalStateException" "java/lang/IllegalStateException", .declares dR, .declares dE, .declares dT]) (fun w hw => hts w (List.mem_cons_of_mem _ (List.mem_append_left _ (List.mem_append_right _ hw)))) (by decide +kernel) (vx_c (yc.use hE.2.1.2.1) (vx_c (va_Nw.use rfl hE.1.2.1) (vx_c (va_Nw.use rfl hE.1.2.2.1) (vx_c (va_Nw.use rfl hE.1.2.2.2) vx_n))))) (by decide +kernel) hH.1 hH.2 hS (hl.1.trans hml.symm) dX2_land_18 dX2_land_21 dX2_land_22 dX2_land_24 dX2_land_27 (fun x hx => (hout x hx).elim) (Nat.le_of_ble_eq_true rfl) (Nat.le_of_ble_eq_true rfl) (Nat.le_of_ble_eq_true rfl) (Nat.le_of_ble_eq_true rfl) hlocks (fun t _ h1 h2 => ⟨(), trivial, Or.inr (⟨rfl, (by rw [hS9])⟩), h1, fun q hq _ => h2 q hq⟩) (fun z hz => absurd hz List.not_mem_nil) (Nat.le_of_ble_eq_true rfl) (Nat.le_of_ble_eq_true rfl)
  · skip
    refine W_top (y := .int (nI l)) (congrArg Value.int hk6) ?_
    refine lv_istore_n (lv' := [(3, .int (nI l)), (2, .ref (ka k)), (0, .ref h), (1, .int (nI k))]) hx hb dX2_land_10 rfl hl (by decide) rfl (fun ls hl => ?_)
    refine lv_iload_n hx hb dX2_land_11 rfl (lv_at hl 0 rfl) ?_
    refine vp_callSi (va_Run.run (va_runS (As := [.int (nI l)]) (rest := []) ⟨hx, hb, hml, hown, hts⟩ (c_X2_isLane l9 (nI l)) (va_cwS 1 hts gX2_land_X2_isLane rfl rfl rfl (by decide +kernel) ⟨Nat.le_of_ble_eq_true rfl, Nat.le_of_ble_eq_true rfl⟩) ⟨fun a U g mk q => q, fun U hU hW => ⟨rfl, trivial⟩⟩ rfl rfl hl.1 rfl (lv_room (Nat.le_of_ble_eq_true rfl)) dX2_land_12 ⟨Nat.le_of_ble_eq_true rfl, Nat.le_of_ble_eq_true rfl⟩)) (fun r hr => ?_)
    subst hr
    refine lv_if_ne (tgt := 28) hx hb dX2_land_15 (by decide) (fun _ => ?_) (fun c_15 => absurd c_15 (bi_nz.mpr (inR_nI hl10 (by decide))))
    refine lv_aload_n hx hb dX2_land_28 rfl (lv_at hl 2 rfl) ?_
    refine lv_iload_n hx hb dX2_land_29 rfl (lv_at hl 0 rfl) ?_
    have hu6 := hI.2.2.2.1.2
    have hlk : lk (F 6) n (nI l) = some k := lk_uniq hkn hk6 (fun j hj q => hu6 j k hj hkn (q.trans hk6.symm) (by rw [q]; exact nI_m1 (by omega)))
    refine va_callv (va_runV (As := [.int (nI l)]) (rest := []) ⟨hx, hb, hml, hown, hts⟩ (c_X2_clearLane l9 dC dI s.heap.size h ak ab af ka kb n p F l k hl10 hlk hu6) (cwV 1 hts gX2_land_X2_clearLane rfl rfl rfl (by decide +kernel) ⟨Nat.le_of_ble_eq_true rfl, Nat.le_of_ble_eq_true rfl⟩) ⟨PWr.blind, va_recv hK hP (ci := 2) (q0 := 0) rfl rfl, PWr.pre hP hK hD hE ((hH.kept hS.2.1).narrow (A_in hD hS hA))⟩ rfl rfl hl.1 rfl (lv_room (Nat.le_of_ble_eq_true rfl)) dX2_land_30 ⟨Nat.le_of_ble_eq_true rfl, Nat.le_of_ble_eq_true rfl⟩) hS (fun q _ hq => A_in hD hS hA q hq) (A_in hD hS hA) (fun u9 t9 H locs ht9 hvm hw9 hB hz1 hk1 hS => ?_)
    have hP : va_P (dC, dI) vwCl (cW tK tB h ak ab af ka kb n p (up F 6 k (-1))) H := by rw [← ht9]; exact hB
    have hD : va_D A (cW tK tB h ak ab af ka kb n p (up F 6 k (-1))) := cG_D hD
    refine lv_iload_n hx hb dX2_land_33 rfl (lv_at hl 0 rfl) ?_
    have hS9 : S_land n F (nI k) = (0, nI l, up F 6 k (-1)) := by rw [S_land, hixk, ← hk6]; exact if_neg (by rw [hk6]; exact nI_m1 (by omega))
    refine vx_ret ?_
    refine W.widen (k := 2) (n := 12) (Nat.le_of_ble_eq_true rfl) (Nat.le_of_ble_eq_true rfl) ?_
    exact W.iret (v := nI l) hx hb hr (fun t ht hW => cQ_mk ka kb (by rw [hS9]) (by rw [hS9]) (by rw [hS9, ht]; exact hP) (by rw [hS9]; exact hD) (hS.F ht)) hS.2.2 dX2_land_34
end
section
theorem nI_sub {a b : Nat} (h : b ≤ a) (ha : a < 2147483648) : nI a - nI b = nI (a - b) := by
  apply Int32.toInt_inj.mp
  rw [i32_sub (by rw [nI_toInt ha, nI_toInt (by omega)]; omega) (by rw [nI_toInt ha, nI_toInt (by omega)]; omega), nI_toInt ha, nI_toInt (by omega), nI_toInt (by omega)]
  omega
theorem win_inR {a b x : Int32} {n : Nat} (h : a ≤ x ∧ x ≤ b) (ha : 0 ≤ a.toInt) (hb : b.toInt < n) : inR n x := by
  obtain ⟨h1, h2⟩ := h
  rw [i32_le] at h1 h2
  exact ⟨by omega, by omega⟩
/-- a line that crosses none -/
theorem xcr_clr {n p : Nat} {F : Rows} {k l : Nat} {e : Int32} {len : Int32} (hI : Inv n p F) (hl : l < 10) (hf : lk (F 6) n (nI l) = none) (he : e = en F k (nI l) len) : (∀ l', l' < 10 → ¬ xcr F n (nI l) e l') ↔ clr F n k (nI l) len := by
  subst he
  constructor
  · intro h j hj
    rcases (hI.2.1 j hj).2.2.2.2.2.2.1 with q | ⟨l', hl', q⟩
    · exact ⟨fun z => z.1 q, fun z => z.1 q⟩
    · have hlk : lk (F 6) n (nI l') = some j := lk_uniq hj q (fun i hi z => hI.2.2.2.1.2 i j hi hj (z.trans q.symm) (by rw [z]; exact nI_m1 (by omega)))
      refine ⟨fun z => h l' hl' ⟨j, hlk, ?_⟩, fun z => h l' hl' ⟨j, hlk, ?_⟩⟩
      · rw [if_pos (by rw [← q]; exact z.2.1)]; exact z.2.2
      · rw [if_neg (by rw [← q]; rw [i32_lt]; have z2 := z.2.1; rw [i32_lt] at z2; omega)]; exact z.2.2
  · rintro h l' hl' ⟨j, hlk, hc⟩
    obtain ⟨hj, hj6⟩ := lk_some hlk
    obtain ⟨h1, h2⟩ := h j hj
    have hne : ¬ F 6 j = -1 := by rw [hj6]; exact nI_m1 (by omega)
    split at hc
    · rename_i q
      exact h1 ⟨hne, by rw [hj6]; exact q, hc⟩
    · rename_i q
      refine h2 ⟨hne, ?_, hc⟩
      have hll : ¬ l' = l := by rintro rfl; rw [hlk] at hf; cases hf
      rw [hj6, i32_lt, nI_toInt (by omega), nI_toInt (by omega)]
      rw [i32_lt, nI_toInt (by omega), nI_toInt (by omega)] at q
      omega
theorem Inv.kd {n p : Nat} {F : Rows} (h : Inv n p F) : ∀ k, k < n → F 0 k = 0 ∨ F 0 k = 1 ∨ F 0 k = 2 := fun k hk => (h.2.1 k hk).1
theorem Inv.lr {n p : Nat} {F : Rows} (h : Inv n p F) : ∀ k, k < n → F 6 k = -1 ∨ ∃ l, l < 10 ∧ F 6 k = nI l := fun k hk => (h.2.1 k hk).2.2.2.2.2.2.1
theorem Inv.fl {n p : Nat} {F : Rows} (h : Inv n p F) : ∀ k, k < n → ¬ F 6 k = -1 → held F k (F 9 0) := fun k hk q => ((h.2.1 k hk).2.2.2.2.2.2.2 q).2.2
/-- so many hours -/
def wtF (F : Rows) (n m : Nat) : Rows := if m = 0 then F else wetF F n (nI m)
theorem wtF_step {n p : Nat} {F : Rows} {m : Nat} (hI : Inv n p F) (hm : m < 24) : hr1 (wtF F n m) n = wtF F n (m + 1) := by
  unfold wtF
  rw [if_neg (Nat.succ_ne_zero m)]
  have key : ∀ j, j < n → w1 (if m = 0 then F else wetF F n (nI m)) j = wetv F (nI (m + 1)) j := by
    intro j hj
    obtain ⟨w, hw, e4⟩ := (hI.2.1 j hj).2.2.2.2.1
    have e0 : (0 : Int32).toInt = 0 := by decide
    have e1 : (1 : Int32) = nI 1 := rfl
    have es : nI w - 1 = if 0 < w then nI (w - 1) else nI w - 1 := by
      split
      · rename_i q; rw [e1]; exact nI_sub (by omega) (by omega)
      · rfl
    by_cases hm0 : m = 0
    · subst hm0
      rw [if_pos rfl]
      unfold w1 wetv
      by_cases q : ¬ F 9 2 = 0 ∧ ¬ F 6 j = -1
      · rw [if_pos q, if_pos q]
      · rw [if_neg q, if_neg q, e4]
        simp only [i32_lt, e0, nI_toInt (show w < 2147483648 by omega), nI_toInt (show 0 + 1 < 2147483648 by omega)]
        by_cases q1 : 1 < w
        · rw [if_pos (by omega), if_pos (by omega)]; rfl
        · by_cases q2 : w = 1
          · subst q2; rw [if_pos (by omega), if_neg (by omega)]; decide
          · have : w = 0 := by omega
            subst this; rw [if_neg (by omega), if_neg (by omega)]; rfl
    · rw [if_neg hm0]
      show (if ¬ F 9 2 = 0 ∧ ¬ F 6 j = -1 then 6 else if 0 < (if j < n then wetv F (nI m) j else F 4 j) then (if j < n then wetv F (nI m) j else F 4 j) - 1 else (if j < n then wetv F (nI m) j else F 4 j)) = _
      rw [if_pos hj]
      unfold wetv
      by_cases q : ¬ F 9 2 = 0 ∧ ¬ F 6 j = -1
      · rw [if_pos q, if_pos q]
      · rw [if_neg q, if_neg q, if_neg q, e4]
        simp only [i32_lt, nI_toInt (show m < 2147483648 by omega), nI_toInt (show m + 1 < 2147483648 by omega), nI_toInt (show w < 2147483648 by omega), e0]
        by_cases q1 : m < w
        · have e5 : nI w - nI m = nI (w - m) := nI_sub (by omega) (by omega)
          rw [if_pos (show (m : Int) < w by omega), e5, nI_toInt (by omega), if_pos (by omega)]
          by_cases q2 : m + 1 < w
          · rw [if_pos (by omega), nI_sub (show m + 1 ≤ w by omega) (by omega), e1, nI_sub (show 1 ≤ w - m by omega) (by omega), Nat.sub_sub]
          · have : w = m + 1 := by omega
            subst this
            rw [if_neg (by omega), Nat.add_sub_cancel_left]; decide
        · rw [if_neg (show ¬ (m : Int) < w by omega), if_neg (show ¬ ((m + 1 : Nat) : Int) < w by omega), e0, if_neg (by omega)]
  funext i
  by_cases hi : i = 4
  · subst hi
    show (fun j => if j < n then w1 (if m = 0 then F else wetF F n (nI m)) j else (if m = 0 then F else wetF F n (nI m)) 4 j) = fun j => if j < n then wetv F (nI (m + 1)) j else F 4 j
    funext j
    by_cases hj : j < n
    · rw [if_pos hj, if_pos hj, key j hj]
    · rw [if_neg hj, if_neg hj]
      split
      · rfl
      · show (if j < n then wetv F (nI m) j else F 4 j) = F 4 j
        rw [if_neg hj]
  · unfold hr1 wetF
    rw [ro_n _ hi, ro_n _ hi]
    split
    · rfl
    · rw [ro_n _ hi]

set_option maxHeartbeats 4000000 in
set_option maxRecDepth 100000 in
theorem c_X2_fly (l9 : Launch) (hlt : l9.stackTraces = false) (dC : Nat → ClassId) (dI : Nat → Nat → Nat) (sz : Nat) {tK tB : ClassId} (h ak ab af : Nat) (ka kb : Nat → Nat) (n p : Nat) (F : Rows) (its ln len : Int32) (hI : Inv n p F) : vx_Met l9 yX2_fly wsX2_fly ({ frames := 7, cells := 2, slots := 12, locals := 115 }) (va_Pc [.ref h, .int its, .int ln, .int len] (PWr dC dI [(tK, .object "Windlane$Kite"), (tB, .object "Windlane$Borrower")] (cW tK tB h ak ab af ka kb n p F) sz)) (cQ dC dI tK tB h ak ab af (va_A (cW tK tB h ak ab af ka kb n p F) sz) n p ((S_fly n F its ln len).2.2) ((S_fly n F its ln len).1) ((S_fly n F its ln len).2.1)) (vx_X (fun _ : Unit => True) (fun E _ _ => (E = "java/lang/IndexOutOfBoundsException" ∧ (S_fly n F its ln len).1 = 1) ∨ (E = "java/lang/IllegalArgumentException" ∧ (S_fly n F its ln len).1 = 2) ∨ (E = "java/lang/IllegalStateException" ∧ (S_fly n F its ln len).1 = 3)) (fun _ => False)) 2 12 (va_A (cW tK tB h ak ab af ka kb n p F) sz) := by
  refine vx_ofW (cc := cX2_fly) (maxL := 6) (ret := (some .int)) (by decide) rfl ?_
  intro p9 e9 s m args below meth c s₁ B hml hout hv
  obtain ⟨rfl, hsz, hP, hK, hD0, hE, hH⟩ := hv
  have hx := B.exec
  have hb := B.bytes
  have hr := B.returns
  have hts := atoms_spec (ws := wsX2_fly) B.pre
  have hown : s.vm.findClass RX2 = some m.cls := findClass_of_methodNamed B.named
  have hlocks := B.notSynchronized
  have hi1 : ∀ w ∈ u_ws RX1 TX1 9, w ∈ wsX2_fly := by decide +kernel
  have hi2 : ∀ w ∈ u_ws RX2 TX2 9, w ∈ wsX2_fly := by decide +kernel
  have lk21 := hts (.fieldLink RX2 21 "Windlane" "flyers" "[LWindlane$Kite;") (by decide +kernel)
  have lk112 := hts (.fieldLink RX2 112 "Windlane" "windSpeed" "I") (by decide +kernel)
  have lk120 := hts (.fieldLink RX2 120 "Windlane" "windSide" "I") (by decide +kernel)
  have lk133 := hts (.fieldLink RX2 133 "Windlane$Kite" "lane" "I") (by decide +kernel)
  have lk136 := hts (.fieldLink RX2 136 "Windlane$Kite" "length" "I") (by decide +kernel)
  subst hsz
  have hD := hD0.self (sz := s.heap.size)
  generalize hAe : va_A (cW tK tB h ak ab af ka kb n p F) s.heap.size = A at hD hH ⊢
  have hA : ∀ q : Nat, s.heap.size ≤ q → A q := fun q h => by rw [← hAe]; exact Or.inr h
  have hS : va_S A s.heap s.heap [] := va_S.rf
  have hP : va_P (dC, dI) vwCl (cW tK tB h ak ab af ka kb n p F) s.heap := hP
  have hn8 : n ≤ 8 := hI.1.1
  have hp8 : p ≤ 8 := hI.1.2
  have hl := lv_entry ([.ref h, .int its, .int ln, .int len]) (n := 6) (Nat.le_of_ble_eq_true rfl)
  rw [lg_entry_eq]
  generalize (lg_sl ([.ref h, .int its, .int ln, .int len]) ++ List.replicate (6 - (lg_sl ([.ref h, .int its, .int ln, .int len])).length) Slot.unset).toArray = ls at hl ⊢
  have hl : lv_has ls 6 [(0, .ref h), (1, .int its), (2, .int ln), (3, .int len)] := hl
  refine lv_aload_n hx hb dX2_fly_0 rfl (lv_at hl 0 rfl) ?_
  refine lv_iload_n hx hb dX2_fly_1 rfl (lv_at hl 1 rfl) ?_
  refine my_callXq (vx_runV (As := [.int its]) (rest := []) ⟨hx, hb, hml, hown, hts⟩ (c_X2_kiteAt l9 hlt dC dI s.heap.size h ak ab af ka kb n p F its hI.1.1) (cwV 1 hts gX2_fly_X2_kiteAt rfl rfl rfl (by decide +kernel) ⟨Nat.le_of_ble_eq_true rfl, Nat.le_of_ble_eq_true rfl⟩) ⟨PWr.blind, va_recv hK hP (ci := 2) (q0 := 0) rfl rfl, PWr.pre hP hK hD hE (hH.narrow (A_in hD hS hA))⟩ rfl rfl hl.1 rfl (lv_room (Nat.le_of_ble_eq_true rfl)) dX2_fly_2 ⟨Nat.le_of_ble_eq_true rfl, Nat.le_of_ble_eq_true rfl⟩) (fun E ce q9 H1 hBE hz1 hk1 hce hcv hcl => vx_out (fun x hx => (hout x hx).elim) hlocks hce hcv hcl (fun t ht _ => ⟨(), trivial, Or.inl (⟨hBE.1, by rw [S_fly, ix_f hBE.2]⟩), by rw [ht]; exact hz1, fun q hq _ => by rw [ht]; exact hk1 q hq⟩) (fun z hz => absurd hz List.not_mem_nil) (Nat.le_of_ble_eq_true rfl) (Nat.le_of_ble_eq_true rfl)) (fun r9 hr9 => ?_)
  obtain ⟨k, hkn, rfl, rfl⟩ := hr9
  have hixk : ix n (nI k) = some k := ix_t hkn (by omega)
  have hl : lv_has ls 6 [(0, .ref h), (1, .int (nI k)), (2, .int ln), (3, .int len)] := hl
  refine W_top (x := va_rf (some (ka k))) (y := .ref (ka k)) rfl ?_
  refine lv_astore (lv' := [(4, .ref (ka k)), (0, .ref h), (1, .int (nI k)), (2, .int ln), (3, .int len)]) hx hb dX2_fly_5 hl (by decide) rfl (fun ls hl => ?_)
  refine lv_iload_n hx hb dX2_fly_7 rfl (lv_at hl 3 rfl) ?_
  rcases inR_cases 10 ln with ⟨l, hl10, rfl⟩ | hno
  · skip
    have hl : lv_has ls 6 [(4, .ref (ka k)), (0, .ref h), (1, .int (nI k)), (2, .int (nI l)), (3, .int len)] := hl
    have hixl : ix 10 (nI l) = some l := ix_t hl10 (by omega)
    refine vp_callSi (va_Run.run (va_runS (As := [.int (nI l)]) (rest := []) ⟨hx, hb, hml, hown, hts⟩ (c_X2_isLane l9 (nI l)) (va_cwS 1 hts gX2_fly_X2_isLane rfl rfl rfl (by decide +kernel) ⟨Nat.le_of_ble_eq_true rfl, Nat.le_of_ble_eq_true rfl⟩) ⟨fun a U g mk q => q, fun U hU hW => ⟨rfl, trivial⟩⟩ rfl rfl hl.1 rfl (lv_room (Nat.le_of_ble_eq_true rfl)) dX2_fly_8 ⟨Nat.le_of_ble_eq_true rfl, Nat.le_of_ble_eq_true rfl⟩)) (fun r hr => ?_)
    subst hr
    refine lv_if_ne (tgt := 24) hx hb dX2_fly_11 (by decide) (fun _ => ?_) (fun c_11 => absurd c_11 (bi_nz.mpr (inR_nI hl10 (by decide))))
    refine lv_iload_n hx hb dX2_fly_24 rfl (lv_at hl 4 rfl) ?_
    refine lv_bipush (v := 10) hx hb dX2_fly_25 (by decide) ?_
    refine lv_bipush (v := 100) hx hb dX2_fly_27 (by decide) ?_
    refine vp_callSi (va_Run.run (va_runS (As := [.int len, .int 10, .int 100]) (rest := []) ⟨hx, hb, hml, hown, hts⟩ (c_X2_isWithin l9 len 10 100) (va_cwS 3 hts gX2_fly_X2_isWithin rfl rfl rfl (by decide +kernel) ⟨Nat.le_of_ble_eq_true rfl, Nat.le_of_ble_eq_true rfl⟩) ⟨fun a U g mk q => q, fun U hU hW => ⟨rfl, trivial⟩⟩ rfl rfl hl.1 rfl (lv_room (Nat.le_of_ble_eq_true rfl)) dX2_fly_29 ⟨Nat.le_of_ble_eq_true rfl, Nat.le_of_ble_eq_true rfl⟩)) (fun r hr => ?_)
    subst hr
    refine lv_if_ne (tgt := 45) hx hb dX2_fly_32 (by decide) (fun c_32 => ?_) (fun c_32 => ?_)
    · skip
      have c_32 := bi_nz.mp c_32
      refine lv_aload hx hb dX2_fly_45 (lv_at hl 0 rfl) ?_
      refine lv_aload_n hx hb dX2_fly_47 rfl (lv_at hl 1 rfl) ?_
      refine va_get (D := (dC, dI)) (ci := 2) (v := .int (F 9 0)) (C := RX2) (T := TX2) (N := 9) hx hb hts hi2 hown hK hP 0 rfl rfl 5 (by decide) lk112 (fun _ h9 => h9) rfl dX2_fly_48 ?_
      have hq1 := one_P hP (cG_k hkn)
      refine vp_callSi (va_Run.run (va_runV (As := [.int (F 9 0)]) (rest := []) ⟨hx, hb, hml, hown, hts⟩ (c_X1_isReadyIn l9 dC dI (ka k) k F (F 9 0) (hI.kd k hkn)) (cwV 1 hts gX2_fly_X1_isReadyIn rfl rfl rfl (by decide +kernel) ⟨Nat.le_of_ble_eq_true rfl, Nat.le_of_ble_eq_true rfl⟩) ⟨PRo.blind, va_recv (hK.sub (tys' := []) [] rfl) hq1 (ci := 1) (q0 := 0) rfl rfl, PRo.pre hq1 (hK.sub (tys' := []) [] rfl) hE⟩ rfl rfl hl.1 rfl (lv_room (Nat.le_of_ble_eq_true rfl)) dX2_fly_51 ⟨Nat.le_of_ble_eq_true rfl, Nat.le_of_ble_eq_true rfl⟩)) (fun r hr => ?_)
      subst hr
      refine lv_if_eq (tgt := 66) hx hb dX2_fly_54 (by decide) (fun c_54 => ?_) (fun c_54 => ?_)
      · skip
        have c_54 := bi_z.mp c_54
        have hS9 : S_fly n F (nI k) (nI l) len = (3, 0, F) := by simp only [S_fly, hixk, hixl]; rw [if_pos c_32]; exact if_neg (fun q => c_54 ⟨q.1, q.2.1, q.2.2.1, q.2.2.2.1⟩)
        obtain ⟨sa, hsa⟩ := hE.2.2.2 (118, "the kite cannot fly, or the lane is not free") (by decide +kernel)
        exact vx_throwS (own := RX2) (cls := "java/lang/IllegalStateException") (text := "the kite cannot fly, or the lane is not free") (names := ["java/lang/RuntimeException", "java/lang/Exception"]) (ik := 39) (is := 118) (ic := 43) (sa := sa) (A := A) hx hb hlt hown (by decide +kernel) (by decide +kernel) (hts (.classLink RX2 39 "java/lang/IllegalStateException") (by decide +kernel)) (hts (.initialized "java/lang/IllegalStateException") (by decide +kernel)) hsa (vx_hat (B := [.castable "java/lang/IllegalStateException" "java/lang/IllegalStateException", .declares dR, .declares dE, .declares dT]) (fun w hw => hts w (List.mem_cons_of_mem _ (List.mem_append_right _ hw))) (by decide +kernel) (vx_c (yc.use hE.2.1.2.1) (vx_c (va_Nw.use rfl hE.1.2.1) (vx_c (va_Nw.use rfl hE.1.2.2.1) (vx_c (va_Nw.use rfl hE.1.2.2.2) vx_n))))) (by decide +kernel) hH.1 hH.2 hS (hl.1.trans hml.symm) dX2_fly_66 dX2_fly_69 dX2_fly_70 dX2_fly_72 dX2_fly_75 (fun x hx => (hout x hx).elim) (Nat.le_of_ble_eq_true rfl) (Nat.le_of_ble_eq_true rfl) (Nat.le_of_ble_eq_true rfl) (Nat.le_of_ble_eq_true rfl) hlocks (fun t _ h1 h2 => ⟨(), trivial, Or.inr (Or.inr (⟨rfl, (by rw [hS9])⟩)), h1, fun q hq _ => h2 q hq⟩) (fun z hz => absurd hz List.not_mem_nil) (Nat.le_of_ble_eq_true rfl) (Nat.le_of_ble_eq_true rfl)
      · skip
        have c_54 := bi_nz.mp c_54
        refine lv_aload_n hx hb dX2_fly_57 rfl (lv_at hl 1 rfl) ?_
        refine va_get (D := (dC, dI)) (ci := 2) (v := .ref af) (C := RX2) (T := TX2) (N := 9) hx hb hts hi2 hown hK hP 0 rfl rfl 4 (by decide) lk21 (fun _ h9 => h9) rfl dX2_fly_58 ?_
        refine lv_iload_n hx hb dX2_fly_61 rfl (lv_at hl 3 rfl) ?_
        refine my_aldq hx hb hK hP 3 0 rfl rfl hl10 (Nat.le_of_ble_eq_true rfl) dX2_fly_62 ?_
        rcases hlk : lk (F 6) n (nI l) with _ | k2
        · skip
          refine W_top (y := .null) (show va_rf ((flF F n l).map ka) = _ by rw [flF_at hl10, hlk]; rfl) ?_
          refine lv_ifnullN (tgt := 76) hx hb dX2_fly_63 (by decide) ?_
          refine lv_aload hx hb dX2_fly_76 (lv_at hl 0 rfl) ?_
          refine lv_iload_n hx hb dX2_fly_78 rfl (lv_at hl 3 rfl) ?_
          refine lv_iload_n hx hb dX2_fly_79 rfl (lv_at hl 4 rfl) ?_
          refine lv_aload_n hx hb dX2_fly_80 rfl (lv_at hl 1 rfl) ?_
          refine va_get (D := (dC, dI)) (ci := 2) (v := .int (F 9 0)) (C := RX2) (T := TX2) (N := 9) hx hb hts hi2 hown hK hP 0 rfl rfl 5 (by decide) lk112 (fun _ h9 => h9) rfl dX2_fly_81 ?_
          refine lv_aload_n hx hb dX2_fly_84 rfl (lv_at hl 1 rfl) ?_
          refine va_get (D := (dC, dI)) (ci := 2) (v := .int (F 9 1)) (C := RX2) (T := TX2) (N := 9) hx hb hts hi2 hown hK hP 0 rfl rfl 6 (by decide) lk120 (fun _ h9 => h9) rfl dX2_fly_85 ?_
          have hq1 := one_P hP (cG_k hkn)
          refine vp_callSi (va_Run.run (va_runV (As := [.int (nI l), .int len, .int (F 9 0), .int (F 9 1)]) (rest := []) ⟨hx, hb, hml, hown, hts⟩ (c_X1_endAt l9 dC dI (ka k) k F (nI l) len (F 9 0) (F 9 1) (hI.kd k hkn) (st_ok c_54.2.2.2)) (cwV 4 hts gX2_fly_X1_endAt rfl rfl rfl (by decide +kernel) ⟨Nat.le_of_ble_eq_true rfl, Nat.le_of_ble_eq_true rfl⟩) ⟨PRo.blind, va_recv (hK.sub (tys' := []) [] rfl) hq1 (ci := 1) (q0 := 0) rfl rfl, PRo.pre hq1 (hK.sub (tys' := []) [] rfl) hE⟩ rfl rfl hl.1 rfl (lv_room (Nat.le_of_ble_eq_true rfl)) dX2_fly_88 ⟨Nat.le_of_ble_eq_true rfl, Nat.le_of_ble_eq_true rfl⟩)) (fun r hr => ?_)
          subst hr
          refine W_top (y := .int (en F k (nI l) len)) (rfl) ?_
          refine lv_istore (lv' := [(5, .int (en F k (nI l) len)), (4, .ref (ka k)), (0, .ref h), (1, .int (nI k)), (2, .int (nI l)), (3, .int len)]) hx hb dX2_fly_91 hl (by decide) rfl (fun ls hl => ?_)
          refine lv_aload_n hx hb dX2_fly_93 rfl (lv_at hl 2 rfl) ?_
          refine lv_iload_n hx hb dX2_fly_94 rfl (lv_at hl 4 rfl) ?_
          refine lv_iload hx hb dX2_fly_95 (lv_at hl 0 rfl) ?_
          refine vp_callSi (va_Run.run (va_runV (As := [.int (nI l), .int (en F k (nI l) len)]) (rest := []) ⟨hx, hb, hml, hown, hts⟩ (c_X2_wouldCross l9 dC dI h ak ab af ka kb n p F (nI l) (en F k (nI l) len) hn8 hI.kd hI.fl) (cwV 2 hts gX2_fly_X2_wouldCross rfl rfl rfl (by decide +kernel) ⟨Nat.le_of_ble_eq_true rfl, Nat.le_of_ble_eq_true rfl⟩) ⟨PRo.blind, va_recv hK hP (ci := 2) (q0 := 0) rfl rfl, PRo.pre hP hK hE⟩ rfl rfl hl.1 rfl (lv_room (Nat.le_of_ble_eq_true rfl)) dX2_fly_97 ⟨Nat.le_of_ble_eq_true rfl, Nat.le_of_ble_eq_true rfl⟩)) (fun r9 hr9 => ?_)
          rcases hr9 with ⟨rfl, lx, hlx, hx9⟩ | ⟨rfl, hx9⟩
          · skip
            refine lv_if_eq (tgt := 113) hx hb dX2_fly_100 (by decide) (fun c_100 => absurd c_100 (by decide)) (fun _ => ?_)
            have hS9 : S_fly n F (nI k) (nI l) len = (3, 0, F) := by simp only [S_fly, hixk, hixl]; rw [if_pos c_32]; exact if_neg (fun q => (xcr_clr hI hl10 hlk rfl).mpr q.2.2.2.2.2 lx hlx hx9)
            obtain ⟨sa, hsa⟩ := hE.2.2.2 (131, "lines would cross") (by decide +kernel)
            exact vx_throwS (own := RX2) (cls := "java/lang/IllegalStateException") (text := "lines would cross") (names := ["java/lang/RuntimeException", "java/lang/Exception"]) (ik := 39) (is := 131) (ic := 43) (sa := sa) (A := A) hx hb hlt hown (by decide +kernel) (by decide +kernel) (hts (.classLink RX2 39 "java/lang/IllegalStateException") (by decide +kernel)) (hts (.initialized "java/lang/IllegalStateException") (by decide +kernel)) hsa (vx_hat (B := [.castable "java/lang/IllegalStateException" "java/lang/IllegalStateException", .declares dR, .declares dE, .declares dT]) (fun w hw => hts w (List.mem_cons_of_mem _ (List.mem_append_right _ hw))) (by decide +kernel) (vx_c (yc.use hE.2.1.2.1) (vx_c (va_Nw.use rfl hE.1.2.1) (vx_c (va_Nw.use rfl hE.1.2.2.1) (vx_c (va_Nw.use rfl hE.1.2.2.2) vx_n))))) (by decide +kernel) hH.1 hH.2 hS (hl.1.trans hml.symm) dX2_fly_103 dX2_fly_106 dX2_fly_107 dX2_fly_109 dX2_fly_112 (fun x hx => (hout x hx).elim) (Nat.le_of_ble_eq_true rfl) (Nat.le_of_ble_eq_true rfl) (Nat.le_of_ble_eq_true rfl) (Nat.le_of_ble_eq_true rfl) hlocks (fun t _ h1 h2 => ⟨(), trivial, Or.inr (Or.inr (⟨rfl, (by rw [hS9])⟩)), h1, fun q hq _ => h2 q hq⟩) (fun z hz => absurd hz List.not_mem_nil) (Nat.le_of_ble_eq_true rfl) (Nat.le_of_ble_eq_true rfl)
          · skip
            refine lv_if_eq (tgt := 113) hx hb dX2_fly_100 (by decide) (fun _ => ?_) (fun c_100 => absurd (by decide) c_100)
            refine lv_aload hx hb dX2_fly_113 (lv_at hl 1 rfl) ?_
            refine lv_iload_n hx hb dX2_fly_115 rfl (lv_at hl 4 rfl) ?_
            refine va_put (D := (dC, dI)) (ci := 1) (v := .int (nI l)) (ty := .int) (C := RX1) (T := TX1) (N := 9) hx hb hts hi1 tyX1 tyX1_ok nmX1 hown hK hP hD hS (k + 4) (cG_k hkn) rfl 7 (by decide) lk133 (fun _ h9 => h9) rfl (by decide +kernel) rfl rfl (Nat.le_of_ble_eq_true rfl) dX2_fly_116 (fun H locs hP hD hS => ?_)
            have hP : va_P (dC, dI) vwCl (cG tK tB h ak ab af ka kb n p (up F 6 k (nI l)) (flF F n) (hbF F n)) H := P_eq (putk (i := 6) (v := nI l) hkn (by decide) (kE_up6 F k _)) hP
            have hD : va_D A (cG tK tB h ak ab af ka kb n p (up F 6 k (nI l)) (flF F n) (hbF F n)) := D_eq (putk (i := 6) (v := nI l) hkn (by decide) (kE_up6 F k _)) hD
            refine lv_aload hx hb dX2_fly_119 (lv_at hl 1 rfl) ?_
            refine lv_iload_n hx hb dX2_fly_121 rfl (lv_at hl 5 rfl) ?_
            refine va_put (D := (dC, dI)) (ci := 1) (v := .int len) (ty := .int) (C := RX1) (T := TX1) (N := 9) hx hb hts hi1 tyX1 tyX1_ok nmX1 hown hK hP hD hS (k + 4) (cG_k hkn) rfl 8 (by decide) lk136 (fun _ h9 => h9) rfl (by decide +kernel) rfl rfl (Nat.le_of_ble_eq_true rfl) dX2_fly_122 (fun H locs hP hD hS => ?_)
            have hP : va_P (dC, dI) vwCl (cG tK tB h ak ab af ka kb n p (up (up F 6 k (nI l)) 7 k len) (flF F n) (hbF F n)) H := P_eq (putk (i := 7) (v := len) hkn (by decide) (kE_up7 (up F 6 k (nI l)) k _)) hP
            have hD : va_D A (cG tK tB h ak ab af ka kb n p (up (up F 6 k (nI l)) 7 k len) (flF F n) (hbF F n)) := D_eq (putk (i := 7) (v := len) hkn (by decide) (kE_up7 (up F 6 k (nI l)) k _)) hD
            refine lv_aload_n hx hb dX2_fly_125 rfl (lv_at hl 2 rfl) ?_
            refine va_get (D := (dC, dI)) (ci := 2) (v := .ref af) (C := RX2) (T := TX2) (N := 9) hx hb hts hi2 hown hK hP 0 rfl rfl 4 (by decide) lk21 (fun _ h9 => h9) rfl dX2_fly_126 ?_
            refine lv_iload_n hx hb dX2_fly_129 rfl (lv_at hl 4 rfl) ?_
            refine lv_aload hx hb dX2_fly_130 (lv_at hl 1 rfl) ?_
            refine my_astq hx hb hK hP hD hS 3 0 (k + 4) 1 rfl rfl (cG_k hkn) rfl hl10 (Nat.le_of_ble_eq_true rfl) dX2_fly_132 (fun H locs hP hD hS => ?_)
            have hP : va_P (dC, dI) vwCl (cW tK tB h ak ab af ka kb n p (up (up F 6 k (nI l)) 7 k len)) H := P_eq ((cG_setf (l := l) (o := some k)).trans (cG_flhb ((flF_take hl10 hkn c_54.2.2.1 hlk).trans (flF_up (by decide)).symm) (fun j _ => congrFun ((hbF_up (by decide)).trans (hbF_up (by decide))).symm j))) hP
            have hD : va_D A (cW tK tB h ak ab af ka kb n p (up (up F 6 k (nI l)) 7 k len)) := D_eq ((cG_setf (l := l) (o := some k)).trans (cG_flhb ((flF_take hl10 hkn c_54.2.2.1 hlk).trans (flF_up (by decide)).symm) (fun j _ => congrFun ((hbF_up (by decide)).trans (hbF_up (by decide))).symm j))) hD
            refine lv_iload hx hb dX2_fly_133 (lv_at hl 0 rfl) ?_
            have hS9 : S_fly n F (nI k) (nI l) len = (0, en F k (nI l) len, up (up F 6 k (nI l)) 7 k len) := by simp only [S_fly, hixk, hixl]; rw [if_pos c_32]; exact if_pos ⟨c_54.1, c_54.2.1, c_54.2.2.1, c_54.2.2.2, hlk, (xcr_clr hI hl10 hlk rfl).mp hx9⟩
            refine vx_ret ?_
            refine W.widen (k := 2) (n := 12) (Nat.le_of_ble_eq_true rfl) (Nat.le_of_ble_eq_true rfl) ?_
            exact W.iret (v := en F k (nI l) len) hx hb hr (fun t ht hW => cQ_mk ka kb (by rw [hS9]) (by rw [hS9]) (by rw [hS9, ht]; exact hP) (by rw [hS9]; exact hD) (hS.F ht)) hS.2.2 dX2_fly_135
        · skip
          refine W_top (y := .ref (ka k2)) (show va_rf ((flF F n l).map ka) = _ by rw [flF_at hl10, hlk]; rfl) ?_
          have hlkn : k2 < n := (lk_some hlk).1
          refine lv_ifnull hx hb dX2_fly_63 ?_
          have hS9 : S_fly n F (nI k) (nI l) len = (3, 0, F) := by simp only [S_fly, hixk, hixl]; rw [if_pos c_32]; exact if_neg (fun q => by rw [q.2.2.2.2.1] at hlk; cases hlk)
          obtain ⟨sa, hsa⟩ := hE.2.2.2 (118, "the kite cannot fly, or the lane is not free") (by decide +kernel)
          exact vx_throwS (own := RX2) (cls := "java/lang/IllegalStateException") (text := "the kite cannot fly, or the lane is not free") (names := ["java/lang/RuntimeException", "java/lang/Exception"]) (ik := 39) (is := 118) (ic := 43) (sa := sa) (A := A) hx hb hlt hown (by decide +kernel) (by decide +kernel) (hts (.classLink RX2 39 "java/lang/IllegalStateException") (by decide +kernel)) (hts (.initialized "java/lang/IllegalStateException") (by decide +kernel)) hsa (vx_hat (B := [.castable "java/lang/IllegalStateException" "java/lang/IllegalStateException", .declares dR, .declares dE, .declares dT]) (fun w hw => hts w (List.mem_cons_of_mem _ (List.mem_append_right _ hw))) (by decide +kernel) (vx_c (yc.use hE.2.1.2.1) (vx_c (va_Nw.use rfl hE.1.2.1) (vx_c (va_Nw.use rfl hE.1.2.2.1) (vx_c (va_Nw.use rfl hE.1.2.2.2) vx_n))))) (by decide +kernel) hH.1 hH.2 hS (hl.1.trans hml.symm) dX2_fly_66 dX2_fly_69 dX2_fly_70 dX2_fly_72 dX2_fly_75 (fun x hx => (hout x hx).elim) (Nat.le_of_ble_eq_true rfl) (Nat.le_of_ble_eq_true rfl) (Nat.le_of_ble_eq_true rfl) (Nat.le_of_ble_eq_true rfl) hlocks (fun t _ h1 h2 => ⟨(), trivial, Or.inr (Or.inr (⟨rfl, (by rw [hS9])⟩)), h1, fun q hq _ => h2 q hq⟩) (fun z hz => absurd hz List.not_mem_nil) (Nat.le_of_ble_eq_true rfl) (Nat.le_of_ble_eq_true rfl)
    · skip
      have c_32 := bi_z.mp c_32
      have hS9 : S_fly n F (nI k) (nI l) len = (2, 0, F) := by simp only [S_fly, hixk, hixl]; exact if_neg c_32
      obtain ⟨sa, hsa⟩ := hE.2.2.2 (110, "length is out of range") (by decide +kernel)
      exact vx_throwS (own := RX2) (cls := "java/lang/IllegalArgumentException") (text := "length is out of range") (names := ["java/lang/RuntimeException", "java/lang/Exception"]) (ik := 28) (is := 110) (ic := 32) (sa := sa) (A := A) hx hb hlt hown (by decide +kernel) (by decide +kernel) (hts (.classLink RX2 28 "java/lang/IllegalArgumentException") (by decide +kernel)) (hts (.initialized "java/lang/IllegalArgumentException") (by decide +kernel)) hsa (vx_hat (B := [.castable "java/lang/IllegalArgumentException" "java/lang/IllegalArgumentException", .declares dR, .declares dE, .declares dT]) (fun w hw => hts w (List.mem_cons_of_mem _ (List.mem_append_left _ (List.mem_append_right _ hw)))) (by decide +kernel) (vx_c (yc.use hE.2.1.1) (vx_c (va_Nw.use rfl hE.1.2.1) (vx_c (va_Nw.use rfl hE.1.2.2.1) (vx_c (va_Nw.use rfl hE.1.2.2.2) vx_n))))) (by decide +kernel) hH.1 hH.2 hS (hl.1.trans hml.symm) dX2_fly_35 dX2_fly_38 dX2_fly_39 dX2_fly_41 dX2_fly_44 (fun x hx => (hout x hx).elim) (Nat.le_of_ble_eq_true rfl) (Nat.le_of_ble_eq_true rfl) (Nat.le_of_ble_eq_true rfl) (Nat.le_of_ble_eq_true rfl) hlocks (fun t _ h1 h2 => ⟨(), trivial, Or.inr (Or.inl (⟨rfl, (by rw [hS9])⟩)), h1, fun q hq _ => h2 q hq⟩) (fun z hz => absurd hz List.not_mem_nil) (Nat.le_of_ble_eq_true rfl) (Nat.le_of_ble_eq_true rfl)
  · skip
    refine vp_callSi (va_Run.run (va_runS (As := [.int ln]) (rest := []) ⟨hx, hb, hml, hown, hts⟩ (c_X2_isLane l9 ln) (va_cwS 1 hts gX2_fly_X2_isLane rfl rfl rfl (by decide +kernel) ⟨Nat.le_of_ble_eq_true rfl, Nat.le_of_ble_eq_true rfl⟩) ⟨fun a U g mk q => q, fun U hU hW => ⟨rfl, trivial⟩⟩ rfl rfl hl.1 rfl (lv_room (Nat.le_of_ble_eq_true rfl)) dX2_fly_8 ⟨Nat.le_of_ble_eq_true rfl, Nat.le_of_ble_eq_true rfl⟩)) (fun r hr => ?_)
    subst hr
    refine lv_if_ne (tgt := 24) hx hb dX2_fly_11 (by decide) (fun c_11 => absurd (bi_f hno) c_11) (fun _ => ?_)
    have hS9 : S_fly n F (nI k) ln len = (1, 0, F) := by simp only [S_fly, hixk, ix_f hno]
    obtain ⟨sa, hsa⟩ := hE.2.2.2 (107, "there is no such lane") (by decide +kernel)
    exact vx_throwS (own := RX2) (cls := "java/lang/IndexOutOfBoundsException") (text := "there is no such lane") (names := ["java/lang/RuntimeException", "java/lang/Exception"]) (ik := 105) (is := 107) (ic := 109) (sa := sa) (A := A) hx hb hlt hown (by decide +kernel) (by decide +kernel) (hts (.classLink RX2 105 "java/lang/IndexOutOfBoundsException") (by decide +kernel)) (hts (.initialized "java/lang/IndexOutOfBoundsException") (by decide +kernel)) hsa (vx_hat (B := [.castable "java/lang/IndexOutOfBoundsException" "java/lang/IndexOutOfBoundsException", .declares dR, .declares dE, .declares dT]) (fun w hw => hts w (List.mem_cons_of_mem _ (List.mem_append_left _ (List.mem_append_left _ (List.mem_append_right _ hw))))) (by decide +kernel) (vx_c (yc.use hE.2.1.2.2) (vx_c (va_Nw.use rfl hE.1.2.1) (vx_c (va_Nw.use rfl hE.1.2.2.1) (vx_c (va_Nw.use rfl hE.1.2.2.2) vx_n))))) (by decide +kernel) hH.1 hH.2 hS (hl.1.trans hml.symm) dX2_fly_14 dX2_fly_17 dX2_fly_18 dX2_fly_20 dX2_fly_23 (fun x hx => (hout x hx).elim) (Nat.le_of_ble_eq_true rfl) (Nat.le_of_ble_eq_true rfl) (Nat.le_of_ble_eq_true rfl) (Nat.le_of_ble_eq_true rfl) hlocks (fun t _ h1 h2 => ⟨(), trivial, Or.inl (⟨rfl, (by rw [hS9])⟩), h1, fun q hq _ => h2 q hq⟩) (fun z hz => absurd hz List.not_mem_nil) (Nat.le_of_ble_eq_true rfl) (Nat.le_of_ble_eq_true rfl)

set_option maxHeartbeats 4000000 in
set_option maxRecDepth 100000 in
theorem c_X2_wind (l9 : Launch) (hlt : l9.stackTraces = false) (dC : Nat → ClassId) (dI : Nat → Nat → Nat) (sz : Nat) {tK tB : ClassId} (h ak ab af : Nat) (ka kb : Nat → Nat) (n p : Nat) (F : Rows) (sp sd : Int32) (hI : Inv n p F) : vx_Met l9 yX2_wind wsX2_wind ({ frames := 6, cells := 1, slots := 6, locals := 136 }) (va_Pc [.ref h, .int sp, .int sd] (PWr dC dI [(tK, .object "Windlane$Kite"), (tB, .object "Windlane$Borrower")] (cW tK tB h ak ab af ka kb n p F) sz)) (cQ dC dI tK tB h ak ab af (va_A (cW tK tB h ak ab af ka kb n p F) sz) n p ((S_wind n F sp sd).2.2) ((S_wind n F sp sd).1) ((S_wind n F sp sd).2.1)) (vx_X (fun _ : Unit => True) (fun E _ _ => (E = "java/lang/IllegalArgumentException" ∧ (S_wind n F sp sd).1 = 1)) (fun _ => False)) 1 6 (va_A (cW tK tB h ak ab af ka kb n p F) sz) := by
  refine vx_ofW (cc := cX2_wind) (maxL := 4) (ret := (some .int)) (by decide) rfl ?_
  intro p9 e9 s m args below meth c s₁ B hml hout hv
  obtain ⟨rfl, hsz, hP, hK, hD0, hE, hH⟩ := hv
  have hx := B.exec
  have hb := B.bytes
  have hr := B.returns
  have hts := atoms_spec (ws := wsX2_wind) B.pre
  have hown : s.vm.findClass RX2 = some m.cls := findClass_of_methodNamed B.named
  have hlocks := B.notSynchronized
  have hi2 : ∀ w ∈ u_ws RX2 TX2 9, w ∈ wsX2_wind := by decide +kernel
  have lk112 := hts (.fieldLink RX2 112 "Windlane" "windSpeed" "I") (by decide +kernel)
  have lk120 := hts (.fieldLink RX2 120 "Windlane" "windSide" "I") (by decide +kernel)
  have lk149 := hts (.fieldLink RX2 149 "Windlane" "calledCount" "I") (by decide +kernel)
  subst hsz
  have hD := hD0.self (sz := s.heap.size)
  generalize hAe : va_A (cW tK tB h ak ab af ka kb n p F) s.heap.size = A at hD hH ⊢
  have hA : ∀ q : Nat, s.heap.size ≤ q → A q := fun q h => by rw [← hAe]; exact Or.inr h
  have hS : va_S A s.heap s.heap [] := va_S.rf
  have hP : va_P (dC, dI) vwCl (cW tK tB h ak ab af ka kb n p F) s.heap := hP
  have hn8 : n ≤ 8 := hI.1.1
  have hp8 : p ≤ 8 := hI.1.2
  have hl := lv_entry ([.ref h, .int sp, .int sd]) (n := 4) (Nat.le_of_ble_eq_true rfl)
  rw [lg_entry_eq]
  generalize (lg_sl ([.ref h, .int sp, .int sd]) ++ List.replicate (4 - (lg_sl ([.ref h, .int sp, .int sd])).length) Slot.unset).toArray = ls at hl ⊢
  have hl : lv_has ls 4 [(0, .ref h), (1, .int sp), (2, .int sd)] := hl
  refine lv_iload_n hx hb dX2_wind_0 rfl (lv_at hl 1 rfl) ?_
  refine vp_callSi (va_Run.run (va_runS (As := [.int sp]) (rest := []) ⟨hx, hb, hml, hown, hts⟩ (c_X2_isSpeed l9 sp) (va_cwS 1 hts gX2_wind_X2_isSpeed rfl rfl rfl (by decide +kernel) ⟨Nat.le_of_ble_eq_true rfl, Nat.le_of_ble_eq_true rfl⟩) ⟨fun a U g mk q => q, fun U hU hW => ⟨rfl, trivial⟩⟩ rfl rfl hl.1 rfl (lv_room (Nat.le_of_ble_eq_true rfl)) dX2_wind_1 ⟨Nat.le_of_ble_eq_true rfl, Nat.le_of_ble_eq_true rfl⟩)) (fun r hr => ?_)
  subst hr
  refine lv_if_eq (tgt := 17) hx hb dX2_wind_4 (by decide) (fun c_4 => ?_) (fun c_4 => ?_)
  · skip
    have c_4 := bi_z.mp c_4
    have hS9 : S_wind n F sp sd = (1, 0, F) := by rw [S_wind]; exact if_neg (fun q => c_4 q.1)
    obtain ⟨sa, hsa⟩ := hE.2.2.2 (147, "speed or side is out of range") (by decide +kernel)
    exact vx_throwS (own := RX2) (cls := "java/lang/IllegalArgumentException") (text := "speed or side is out of range") (names := ["java/lang/RuntimeException", "java/lang/Exception"]) (ik := 28) (is := 147) (ic := 32) (sa := sa) (A := A) hx hb hlt hown (by decide +kernel) (by decide +kernel) (hts (.classLink RX2 28 "java/lang/IllegalArgumentException") (by decide +kernel)) (hts (.initialized "java/lang/IllegalArgumentException") (by decide +kernel)) hsa (vx_hat (B := [.castable "java/lang/IllegalArgumentException" "java/lang/IllegalArgumentException", .declares dR, .declares dE, .declares dT]) (fun w hw => hts w (List.mem_cons_of_mem _ (List.mem_append_right _ hw))) (by decide +kernel) (vx_c (yc.use hE.2.1.1) (vx_c (va_Nw.use rfl hE.1.2.1) (vx_c (va_Nw.use rfl hE.1.2.2.1) (vx_c (va_Nw.use rfl hE.1.2.2.2) vx_n))))) (by decide +kernel) hH.1 hH.2 hS (hl.1.trans hml.symm) dX2_wind_17 dX2_wind_20 dX2_wind_21 dX2_wind_23 dX2_wind_26 (fun x hx => (hout x hx).elim) (Nat.le_of_ble_eq_true rfl) (Nat.le_of_ble_eq_true rfl) (Nat.le_of_ble_eq_true rfl) (Nat.le_of_ble_eq_true rfl) hlocks (fun t _ h1 h2 => ⟨(), trivial, ⟨rfl, (by rw [hS9])⟩, h1, fun q hq _ => h2 q hq⟩) (fun z hz => absurd hz List.not_mem_nil) (Nat.le_of_ble_eq_true rfl) (Nat.le_of_ble_eq_true rfl)
  · skip
    have c_4 := bi_nz.mp c_4
    refine lv_iload_n hx hb dX2_wind_7 rfl (lv_at hl 2 rfl) ?_
    refine lv_bipush (v := (-5)) hx hb dX2_wind_8 (by decide) ?_
    refine lv_iconst (v := 5) hx hb dX2_wind_10 (by decide) ?_
    refine vp_callSi (va_Run.run (va_runS (As := [.int sd, .int (-5), .int 5]) (rest := []) ⟨hx, hb, hml, hown, hts⟩ (c_X2_isWithin l9 sd (-5) 5) (va_cwS 3 hts gX2_wind_X2_isWithin rfl rfl rfl (by decide +kernel) ⟨Nat.le_of_ble_eq_true rfl, Nat.le_of_ble_eq_true rfl⟩) ⟨fun a U g mk q => q, fun U hU hW => ⟨rfl, trivial⟩⟩ rfl rfl hl.1 rfl (lv_room (Nat.le_of_ble_eq_true rfl)) dX2_wind_11 ⟨Nat.le_of_ble_eq_true rfl, Nat.le_of_ble_eq_true rfl⟩)) (fun r hr => ?_)
    subst hr
    refine lv_if_ne (tgt := 27) hx hb dX2_wind_14 (by decide) (fun c_14 => ?_) (fun c_14 => ?_)
    · skip
      have c_14 := bi_nz.mp c_14
      refine lv_aload_n hx hb dX2_wind_27 rfl (lv_at hl 0 rfl) ?_
      refine lv_iload_n hx hb dX2_wind_28 rfl (lv_at hl 1 rfl) ?_
      refine va_put (D := (dC, dI)) (ci := 2) (v := .int sp) (ty := .int) (C := RX2) (T := TX2) (N := 9) hx hb hts hi2 tyX2 tyX2_ok nmX2 hown hK hP hD hS 0 rfl rfl 5 (by decide) lk112 (fun _ h9 => h9) rfl (by decide +kernel) rfl rfl (Nat.le_of_ble_eq_true rfl) dX2_wind_29 (fun H locs hP hD hS => ?_)
      have hP : va_P (dC, dI) vwCl (cG tK tB h ak ab af ka kb n p (up F 9 0 sp) (flF F n) (hbF F n)) H := P_eq (rfl) hP
      have hD : va_D A (cG tK tB h ak ab af ka kb n p (up F 9 0 sp) (flF F n) (hbF F n)) := D_eq (rfl) hD
      refine lv_aload_n hx hb dX2_wind_32 rfl (lv_at hl 0 rfl) ?_
      refine lv_iload_n hx hb dX2_wind_33 rfl (lv_at hl 2 rfl) ?_
      refine va_put (D := (dC, dI)) (ci := 2) (v := .int sd) (ty := .int) (C := RX2) (T := TX2) (N := 9) hx hb hts hi2 tyX2 tyX2_ok nmX2 hown hK hP hD hS 0 rfl rfl 6 (by decide) lk120 (fun _ h9 => h9) rfl (by decide +kernel) rfl rfl (Nat.le_of_ble_eq_true rfl) dX2_wind_34 (fun H locs hP hD hS => ?_)
      have hP : va_P (dC, dI) vwCl (cG tK tB h ak ab af ka kb n p (up (up F 9 0 sp) 9 1 sd) (flF F n) (hbF F n)) H := P_eq (rfl) hP
      have hD : va_D A (cG tK tB h ak ab af ka kb n p (up (up F 9 0 sp) 9 1 sd) (flF F n) (hbF F n)) := D_eq (rfl) hD
      refine lv_aload_n hx hb dX2_wind_37 rfl (lv_at hl 0 rfl) ?_
      refine va_get (D := (dC, dI)) (ci := 2) (v := .int (F 9 3)) (C := RX2) (T := TX2) (N := 9) hx hb hts hi2 hown hK hP 0 rfl rfl 8 (by decide) lk149 (fun _ h9 => h9) rfl dX2_wind_38 ?_
      refine lv_istore_n (lv' := [(3, .int (F 9 3)), (0, .ref h), (1, .int sp), (2, .int sd)]) hx hb dX2_wind_41 rfl hl (by decide) rfl (fun ls hl => ?_)
      refine lv_aload_n hx hb dX2_wind_42 rfl (lv_at hl 1 rfl) ?_
      have hP : va_P (dC, dI) vwCl (cW tK tB h ak ab af ka kb n p (up (up F 9 0 sp) 9 1 sd)) H := hP
      have hD : va_D A (cW tK tB h ak ab af ka kb n p (up (up F 9 0 sp) 9 1 sd)) := hD
      refine va_callv (va_runV (As := []) (rest := []) ⟨hx, hb, hml, hown, hts⟩ (c_X2_callDownUnheld l9 dC dI H.size h ak ab af ka kb n p (up (up F 9 0 sp) 9 1 sd) hn8 hI.kd hI.2.2.2.1.2 hI.lr) (cwV 0 hts gX2_wind_X2_callDownUnheld rfl rfl rfl (by decide +kernel) ⟨Nat.le_of_ble_eq_true rfl, Nat.le_of_ble_eq_true rfl⟩) ⟨PWr.blind, va_recv hK hP (ci := 2) (q0 := 0) rfl rfl, PWr.pre hP hK hD hE ((hH.kept hS.2.1).narrow (A_in hD hS hA))⟩ rfl rfl hl.1 rfl (lv_room (Nat.le_of_ble_eq_true rfl)) dX2_wind_43 ⟨Nat.le_of_ble_eq_true rfl, Nat.le_of_ble_eq_true rfl⟩) hS (fun q _ hq => A_in hD hS hA q hq) (A_in hD hS hA) (fun u9 t9 H locs ht9 hvm hw9 hB hz1 hk1 hS => ?_)
      have hP : va_P (dC, dI) vwCl (cW tK tB h ak ab af ka kb n p (uh (up (up F 9 0 sp) 9 1 sd) n)) H := by rw [← ht9]; exact hB
      have hD : va_D A (cW tK tB h ak ab af ka kb n p (uh (up (up F 9 0 sp) 9 1 sd) n)) := cG_D hD
      refine lv_aload_n hx hb dX2_wind_46 rfl (lv_at hl 1 rfl) ?_
      have hF := uh_HF (F := (up (up F 9 0 sp) 9 1 sd)) hn8 hI.kd hI.2.2.2.1.2 hI.lr
      refine va_callv (va_runV (As := []) (rest := []) ⟨hx, hb, hml, hown, hts⟩ (c_X2_callDownCrossing l9 dC dI H.size h ak ab af ka kb n p (uh (up (up F 9 0 sp) 9 1 sd) n) hF) (cwV 0 hts gX2_wind_X2_callDownCrossing rfl rfl rfl (by decide +kernel) ⟨Nat.le_of_ble_eq_true rfl, Nat.le_of_ble_eq_true rfl⟩) ⟨PWr.blind, va_recv hK hP (ci := 2) (q0 := 0) rfl rfl, PWr.pre hP hK hD hE ((hH.kept hS.2.1).narrow (A_in hD hS hA))⟩ rfl rfl hl.1 rfl (lv_room (Nat.le_of_ble_eq_true rfl)) dX2_wind_47 ⟨Nat.le_of_ble_eq_true rfl, Nat.le_of_ble_eq_true rfl⟩) hS (fun q _ hq => A_in hD hS hA q hq) (A_in hD hS hA) (fun u9 t9 H locs ht9 hvm hw9 hB hz1 hk1 hS => ?_)
      have hP : va_P (dC, dI) vwCl (cW tK tB h ak ab af ka kb n p (stl n 10 (uh (up (up F 9 0 sp) 9 1 sd) n))) H := by rw [← ht9]; exact hB
      have hD : va_D A (cW tK tB h ak ab af ka kb n p (stl n 10 (uh (up (up F 9 0 sp) 9 1 sd) n))) := cG_D hD
      refine lv_aload_n hx hb dX2_wind_50 rfl (lv_at hl 1 rfl) ?_
      refine va_get (D := (dC, dI)) (ci := 2) (v := .int ((stl n 10 (uh (up (up F 9 0 sp) 9 1 sd) n)) 9 3)) (C := RX2) (T := TX2) (N := 9) hx hb hts hi2 hown hK hP 0 rfl rfl 8 (by decide) lk149 (fun _ h9 => h9) rfl dX2_wind_51 ?_
      refine lv_iload_n hx hb dX2_wind_54 rfl (lv_at hl 0 rfl) ?_
      refine lv_isub hx hb dX2_wind_55 ?_
      have hS9 : S_wind n F sp sd = (0, stl n 10 (uh (up (up F 9 0 sp) 9 1 sd) n) 9 3 - F 9 3, stl n 10 (uh (up (up F 9 0 sp) 9 1 sd) n)) := by rw [S_wind]; exact if_pos ⟨c_4, c_14⟩
      refine vx_ret ?_
      refine W.widen (k := 1) (n := 6) (Nat.le_of_ble_eq_true rfl) (Nat.le_of_ble_eq_true rfl) ?_
      exact W.iret (v := ((stl n 10 (uh (up (up F 9 0 sp) 9 1 sd) n)) 9 3) - (F 9 3)) hx hb hr (fun t ht hW => cQ_mk ka kb (by rw [hS9]) (by rw [hS9]) (by rw [hS9, ht]; exact hP) (by rw [hS9]; exact hD) (hS.F ht)) hS.2.2 dX2_wind_56
    · skip
      have c_14 := bi_z.mp c_14
      have hS9 : S_wind n F sp sd = (1, 0, F) := by rw [S_wind]; exact if_neg (fun q => c_14 q.2)
      obtain ⟨sa, hsa⟩ := hE.2.2.2 (147, "speed or side is out of range") (by decide +kernel)
      exact vx_throwS (own := RX2) (cls := "java/lang/IllegalArgumentException") (text := "speed or side is out of range") (names := ["java/lang/RuntimeException", "java/lang/Exception"]) (ik := 28) (is := 147) (ic := 32) (sa := sa) (A := A) hx hb hlt hown (by decide +kernel) (by decide +kernel) (hts (.classLink RX2 28 "java/lang/IllegalArgumentException") (by decide +kernel)) (hts (.initialized "java/lang/IllegalArgumentException") (by decide +kernel)) hsa (vx_hat (B := [.castable "java/lang/IllegalArgumentException" "java/lang/IllegalArgumentException", .declares dR, .declares dE, .declares dT]) (fun w hw => hts w (List.mem_cons_of_mem _ (List.mem_append_right _ hw))) (by decide +kernel) (vx_c (yc.use hE.2.1.1) (vx_c (va_Nw.use rfl hE.1.2.1) (vx_c (va_Nw.use rfl hE.1.2.2.1) (vx_c (va_Nw.use rfl hE.1.2.2.2) vx_n))))) (by decide +kernel) hH.1 hH.2 hS (hl.1.trans hml.symm) dX2_wind_17 dX2_wind_20 dX2_wind_21 dX2_wind_23 dX2_wind_26 (fun x hx => (hout x hx).elim) (Nat.le_of_ble_eq_true rfl) (Nat.le_of_ble_eq_true rfl) (Nat.le_of_ble_eq_true rfl) (Nat.le_of_ble_eq_true rfl) hlocks (fun t _ h1 h2 => ⟨(), trivial, ⟨rfl, (by rw [hS9])⟩, h1, fun q hq _ => h2 q hq⟩) (fun z hz => absurd hz List.not_mem_nil) (Nat.le_of_ble_eq_true rfl) (Nat.le_of_ble_eq_true rfl)

set_option maxHeartbeats 4000000 in
set_option maxRecDepth 100000 in
theorem c_X2_pass (l9 : Launch) (hlt : l9.stackTraces = false) (dC : Nat → ClassId) (dI : Nat → Nat → Nat) (sz : Nat) {tK tB : ClassId} (h ak ab af : Nat) (ka kb : Nat → Nat) (n p : Nat) (F : Rows) (hs : Int32) (hI : Inv n p F) : vx_Met l9 yX2_pass wsX2_pass ({ frames := 6, cells := 1, slots := 6, locals := 82 }) (va_Pc [.ref h, .int hs] (PWr dC dI [(tK, .object "Windlane$Kite"), (tB, .object "Windlane$Borrower")] (cW tK tB h ak ab af ka kb n p F) sz)) (cQ dC dI tK tB h ak ab af (va_A (cW tK tB h ak ab af ka kb n p F) sz) n p ((S_pass n F hs).2.2) ((S_pass n F hs).1) ((S_pass n F hs).2.1)) (vx_X (fun _ : Unit => True) (fun E _ _ => (E = "java/lang/IllegalArgumentException" ∧ (S_pass n F hs).1 = 1)) (fun _ => False)) 1 6 (va_A (cW tK tB h ak ab af ka kb n p F) sz) := by
  refine vx_ofW (cc := cX2_pass) (maxL := 3) (ret := (some .int)) (by decide) rfl ?_
  intro p9 e9 s m args below meth c s₁ B hml hout hv
  obtain ⟨rfl, hsz, hP, hK, hD0, hE, hH⟩ := hv
  have hx := B.exec
  have hb := B.bytes
  have hr := B.returns
  have hts := atoms_spec (ws := wsX2_pass) B.pre
  have hown : s.vm.findClass RX2 = some m.cls := findClass_of_methodNamed B.named
  have hlocks := B.notSynchronized
  subst hsz
  have hD := hD0.self (sz := s.heap.size)
  generalize hAe : va_A (cW tK tB h ak ab af ka kb n p F) s.heap.size = A at hD hH ⊢
  have hA : ∀ q : Nat, s.heap.size ≤ q → A q := fun q h => by rw [← hAe]; exact Or.inr h
  have hS : va_S A s.heap s.heap [] := va_S.rf
  have hP : va_P (dC, dI) vwCl (cW tK tB h ak ab af ka kb n p F) s.heap := hP
  have hn8 : n ≤ 8 := hI.1.1
  have hp8 : p ≤ 8 := hI.1.2
  have hl := lv_entry ([.ref h, .int hs]) (n := 3) (Nat.le_of_ble_eq_true rfl)
  rw [lg_entry_eq]
  generalize (lg_sl ([.ref h, .int hs]) ++ List.replicate (3 - (lg_sl ([.ref h, .int hs])).length) Slot.unset).toArray = ls at hl ⊢
  have hl : lv_has ls 3 [(0, .ref h), (1, .int hs)] := hl
  refine lv_iload_n hx hb dX2_pass_0 rfl (lv_at hl 1 rfl) ?_
  refine lv_iconst (v := 1) hx hb dX2_pass_1 (by decide) ?_
  refine lv_bipush (v := 24) hx hb dX2_pass_2 (by decide) ?_
  refine vp_callSi (va_Run.run (va_runS (As := [.int hs, .int 1, .int 24]) (rest := []) ⟨hx, hb, hml, hown, hts⟩ (c_X2_isWithin l9 hs 1 24) (va_cwS 3 hts gX2_pass_X2_isWithin rfl rfl rfl (by decide +kernel) ⟨Nat.le_of_ble_eq_true rfl, Nat.le_of_ble_eq_true rfl⟩) ⟨fun a U g mk q => q, fun U hU hW => ⟨rfl, trivial⟩⟩ rfl rfl hl.1 rfl (lv_room (Nat.le_of_ble_eq_true rfl)) dX2_pass_4 ⟨Nat.le_of_ble_eq_true rfl, Nat.le_of_ble_eq_true rfl⟩)) (fun r hr => ?_)
  subst hr
  refine lv_if_ne (tgt := 20) hx hb dX2_pass_7 (by decide) (fun c_7 => ?_) (fun c_7 => ?_)
  · skip
    have c_7 := bi_nz.mp c_7
    obtain ⟨m0, hm0, rfl⟩ : ∃ m0, m0 < 25 ∧ hs = nI m0 := inR_of (win_inR c_7 (by decide) (by decide))
    have hm1 : 1 ≤ m0 := by have q := c_7.1; rw [i32_le, nI_toInt (by omega), show (1 : Int32).toInt = 1 from by decide] at q; omega
    have hl : lv_has ls 3 [(0, .ref h), (1, .int (nI m0))] := hl
    refine lv_iconst (v := 0) hx hb dX2_pass_20 (by decide) ?_
    refine lv_istore_n (lv' := [(2, .int 0), (0, .ref h), (1, .int (nI m0))]) hx hb dX2_pass_21 rfl hl (by decide) rfl (fun ls hl => ?_)
    refine W_loopH (nL := 3) (fun i : Nat => [(2, .int (nI i)), (0, .ref h), (1, .int (nI m0))]) (fun (i : Nat) (H : Heap) (locs : List Loc) => i ≤ m0 ∧ va_P (dC, dI) vwCl (cW tK tB h ak ab af ka kb n p (wtF F n i)) H ∧ va_S A s.heap H locs) (fun i => m0 - i) ?_ 0 (⟨Nat.zero_le _, hP, hS⟩) (lv_sub hl [0, 1, 2] rfl)
    intro i H locs ls hI hl ih
    obtain ⟨him, hP, hS⟩ := hI
    have hl : lv_has ls 3 [(2, .int (nI i)), (0, .ref h), (1, .int (nI m0))] := hl
    have hP : va_P (dC, dI) vwCl (cW tK tB h ak ab af ka kb n p (wtF F n i)) H := hP
    have hD : va_D A (cW tK tB h ak ab af ka kb n p (wtF F n i)) := cG_D hD
    refine lv_iload_n hx hb dX2_pass_22 rfl (lv_at hl 0 rfl) ?_
    refine lv_iload_n hx hb dX2_pass_23 rfl (lv_at hl 2 rfl) ?_
    refine lv_icmp_ge (tgt := 37) hx hb dX2_pass_24 (by decide) (fun c_24 => ?_) (fun c_24 => ?_)
    · skip
      have he : i = m0 := by have q := (nI_leI (a := m0) (b := i) (by omega) (by omega)).mp c_24; omega
      subst he
      refine lv_aload_n hx hb dX2_pass_37 rfl (lv_at hl 1 rfl) ?_
      have eG : wtF F n i = wetF F n (nI i) := if_neg (by omega)
      rw [eG] at hP
      have hD : va_D A (cW tK tB h ak ab af ka kb n p (wetF F n (nI i))) := cG_D hD
      refine vp_callSi (va_Run.run (va_runV (As := []) (rest := []) ⟨hx, hb, hml, hown, hts⟩ (c_X2_countWet l9 dC dI h ak ab af ka kb n p (wetF F n (nI i)) hn8) (cwV 0 hts gX2_pass_X2_countWet rfl rfl rfl (by decide +kernel) ⟨Nat.le_of_ble_eq_true rfl, Nat.le_of_ble_eq_true rfl⟩) ⟨PRo.blind, va_recv hK hP (ci := 2) (q0 := 0) rfl rfl, PRo.pre hP hK hE⟩ rfl rfl hl.1 rfl (lv_room (Nat.le_of_ble_eq_true rfl)) dX2_pass_38 ⟨Nat.le_of_ble_eq_true rfl, Nat.le_of_ble_eq_true rfl⟩)) (fun r hr => ?_)
      subst hr
      refine W_top (y := .int (nI (cnt (fun j => decide (0 < wetv F (nI i) j)) n))) (congrArg (fun z => Value.int (nI z)) (cnt_congr (fun j hj => by show decide (0 < if j < n then wetv F (nI i) j else F 4 j) = _; rw [if_pos hj]))) ?_
      have hS9 : S_pass n F (nI i) = (0, nI (cnt (fun j => decide (0 < wetv F (nI i) j)) n), wetF F n (nI i)) := by rw [S_pass]; exact if_pos c_7
      refine vx_ret ?_
      refine W.widen (k := 1) (n := 6) (Nat.le_of_ble_eq_true rfl) (Nat.le_of_ble_eq_true rfl) ?_
      exact W.iret (v := nI (cnt (fun j => decide (0 < wetv F (nI i) j)) n)) hx hb hr (fun t ht hW => cQ_mk ka kb (by rw [hS9]) (by rw [hS9]) (by rw [hS9, ht]; exact hP) (by rw [hS9]; exact hD) (hS.F ht)) hS.2.2 dX2_pass_41
    · skip
      have hlt9 : i < m0 := Nat.not_le.mp (fun q => c_24 ((nI_leI (a := m0) (b := i) (by omega) (by omega)).mpr q))
      refine lv_aload_n hx hb dX2_pass_27 rfl (lv_at hl 1 rfl) ?_
      refine va_callv (va_runV (As := []) (rest := []) ⟨hx, hb, hml, hown, hts⟩ (c_X2_spendHour l9 dC dI H.size h ak ab af ka kb n p (wtF F n i) hn8) (cwV 0 hts gX2_pass_X2_spendHour rfl rfl rfl (by decide +kernel) ⟨Nat.le_of_ble_eq_true rfl, Nat.le_of_ble_eq_true rfl⟩) ⟨PWr.blind, va_recv hK hP (ci := 2) (q0 := 0) rfl rfl, PWr.pre hP hK hD hE ((hH.kept hS.2.1).narrow (A_in hD hS hA))⟩ rfl rfl hl.1 rfl (lv_room (Nat.le_of_ble_eq_true rfl)) dX2_pass_28 ⟨Nat.le_of_ble_eq_true rfl, Nat.le_of_ble_eq_true rfl⟩) hS (fun q _ hq => A_in hD hS hA q hq) (A_in hD hS hA) (fun u9 t9 H locs ht9 hvm hw9 hB hz1 hk1 hS => ?_)
      have hP : va_P (dC, dI) vwCl (cW tK tB h ak ab af ka kb n p (hr1 (wtF F n i) n)) H := by rw [← ht9]; exact hB
      have hD : va_D A (cW tK tB h ak ab af ka kb n p (hr1 (wtF F n i) n)) := cG_D hD
      refine lv_iinc (v := nI (i + 1)) (lv' := [(2, .int (nI (i + 1))), (0, .ref h), (1, .int (nI m0))]) hx hb dX2_pass_31 hl (k := 0) rfl (nI_1 _) (by decide) rfl (fun ls hl => ?_)
      refine lv_goto (tgt := 22) hx hb dX2_pass_34 (by decide) ?_
      rw [wtF_step hI (by omega)] at hP
      exact ih (i + 1) _ _ ls (by omega) (⟨by omega, hP, hS⟩) (lv_sub hl [0, 1, 2] rfl)
  · skip
    have c_7 := bi_z.mp c_7
    have hS9 : S_pass n F hs = (1, 0, F) := by rw [S_pass]; exact if_neg c_7
    obtain ⟨sa, hsa⟩ := hE.2.2.2 (161, "hours is out of range") (by decide +kernel)
    exact vx_throwS (own := RX2) (cls := "java/lang/IllegalArgumentException") (text := "hours is out of range") (names := ["java/lang/RuntimeException", "java/lang/Exception"]) (ik := 28) (is := 161) (ic := 32) (sa := sa) (A := A) hx hb hlt hown (by decide +kernel) (by decide +kernel) (hts (.classLink RX2 28 "java/lang/IllegalArgumentException") (by decide +kernel)) (hts (.initialized "java/lang/IllegalArgumentException") (by decide +kernel)) hsa (vx_hat (B := [.castable "java/lang/IllegalArgumentException" "java/lang/IllegalArgumentException", .declares dR, .declares dE, .declares dT]) (fun w hw => hts w (List.mem_cons_of_mem _ (List.mem_append_right _ hw))) (by decide +kernel) (vx_c (yc.use hE.2.1.1) (vx_c (va_Nw.use rfl hE.1.2.1) (vx_c (va_Nw.use rfl hE.1.2.2.1) (vx_c (va_Nw.use rfl hE.1.2.2.2) vx_n))))) (by decide +kernel) hH.1 hH.2 hS (hl.1.trans hml.symm) dX2_pass_10 dX2_pass_13 dX2_pass_14 dX2_pass_16 dX2_pass_19 (fun x hx => (hout x hx).elim) (Nat.le_of_ble_eq_true rfl) (Nat.le_of_ble_eq_true rfl) (Nat.le_of_ble_eq_true rfl) (Nat.le_of_ble_eq_true rfl) hlocks (fun t _ h1 h2 => ⟨(), trivial, ⟨rfl, (by rw [hS9])⟩, h1, fun q hq _ => h2 q hq⟩) (fun z hz => absurd hz List.not_mem_nil) (Nat.le_of_ble_eq_true rfl) (Nat.le_of_ble_eq_true rfl)

set_option maxHeartbeats 4000000 in
set_option maxRecDepth 100000 in
theorem c_X2_pull (l9 : Launch) (hlt : l9.stackTraces = false) (dC : Nat → ClassId) (dI : Nat → Nat → Nat) (sz : Nat) {tK tB : ClassId} (h ak ab af : Nat) (ka kb : Nat → Nat) (n p : Nat) (F : Rows) (its sp : Int32) (hI : Inv n p F) : vx_Met l9 yX2_pull wsX2_pull ({ frames := 7, cells := 2, slots := 12, locals := 104 }) (va_Pc [.ref h, .int its, .int sp] (PWr dC dI [(tK, .object "Windlane$Kite"), (tB, .object "Windlane$Borrower")] (cW tK tB h ak ab af ka kb n p F) sz)) (cQ dC dI tK tB h ak ab af (va_A (cW tK tB h ak ab af ka kb n p F) sz) n p F ((S_pull n F its sp).1) ((S_pull n F its sp).2)) (vx_X (fun _ : Unit => True) (fun E _ _ => (E = "java/lang/IndexOutOfBoundsException" ∧ (S_pull n F its sp).1 = 1) ∨ (E = "java/lang/IllegalArgumentException" ∧ (S_pull n F its sp).1 = 2)) (fun _ => False)) 2 12 (va_A (cW tK tB h ak ab af ka kb n p F) sz) := by
  refine vx_ofW (cc := cX2_pull) (maxL := 4) (ret := (some .int)) (by decide) rfl ?_
  intro p9 e9 s m args below meth c s₁ B hml hout hv
  obtain ⟨rfl, hsz, hP, hK, hD0, hE, hH⟩ := hv
  have hx := B.exec
  have hb := B.bytes
  have hr := B.returns
  have hts := atoms_spec (ws := wsX2_pull) B.pre
  have hown : s.vm.findClass RX2 = some m.cls := findClass_of_methodNamed B.named
  have hlocks := B.notSynchronized
  subst hsz
  have hD := hD0.self (sz := s.heap.size)
  generalize hAe : va_A (cW tK tB h ak ab af ka kb n p F) s.heap.size = A at hD hH ⊢
  have hA : ∀ q : Nat, s.heap.size ≤ q → A q := fun q h => by rw [← hAe]; exact Or.inr h
  have hS : va_S A s.heap s.heap [] := va_S.rf
  have hP : va_P (dC, dI) vwCl (cW tK tB h ak ab af ka kb n p F) s.heap := hP
  have hn8 : n ≤ 8 := hI.1.1
  have hp8 : p ≤ 8 := hI.1.2
  have hl := lv_entry ([.ref h, .int its, .int sp]) (n := 4) (Nat.le_of_ble_eq_true rfl)
  rw [lg_entry_eq]
  generalize (lg_sl ([.ref h, .int its, .int sp]) ++ List.replicate (4 - (lg_sl ([.ref h, .int its, .int sp])).length) Slot.unset).toArray = ls at hl ⊢
  have hl : lv_has ls 4 [(0, .ref h), (1, .int its), (2, .int sp)] := hl
  refine lv_aload_n hx hb dX2_pull_0 rfl (lv_at hl 0 rfl) ?_
  refine lv_iload_n hx hb dX2_pull_1 rfl (lv_at hl 1 rfl) ?_
  refine my_callXq (vx_runV (As := [.int its]) (rest := []) ⟨hx, hb, hml, hown, hts⟩ (c_X2_kiteAt l9 hlt dC dI s.heap.size h ak ab af ka kb n p F its hI.1.1) (cwV 1 hts gX2_pull_X2_kiteAt rfl rfl rfl (by decide +kernel) ⟨Nat.le_of_ble_eq_true rfl, Nat.le_of_ble_eq_true rfl⟩) ⟨PWr.blind, va_recv hK hP (ci := 2) (q0 := 0) rfl rfl, PWr.pre hP hK hD hE (hH.narrow (A_in hD hS hA))⟩ rfl rfl hl.1 rfl (lv_room (Nat.le_of_ble_eq_true rfl)) dX2_pull_2 ⟨Nat.le_of_ble_eq_true rfl, Nat.le_of_ble_eq_true rfl⟩) (fun E ce q9 H1 hBE hz1 hk1 hce hcv hcl => vx_out (fun x hx => (hout x hx).elim) hlocks hce hcv hcl (fun t ht _ => ⟨(), trivial, Or.inl (⟨hBE.1, by rw [S_pull, ix_f hBE.2]⟩), by rw [ht]; exact hz1, fun q hq _ => by rw [ht]; exact hk1 q hq⟩) (fun z hz => absurd hz List.not_mem_nil) (Nat.le_of_ble_eq_true rfl) (Nat.le_of_ble_eq_true rfl)) (fun r9 hr9 => ?_)
  obtain ⟨k, hkn, rfl, rfl⟩ := hr9
  have hixk : ix n (nI k) = some k := ix_t hkn (by omega)
  have hl : lv_has ls 4 [(0, .ref h), (1, .int (nI k)), (2, .int sp)] := hl
  refine W_top (x := va_rf (some (ka k))) (y := .ref (ka k)) rfl ?_
  refine lv_astore_n (lv' := [(3, .ref (ka k)), (0, .ref h), (1, .int (nI k)), (2, .int sp)]) hx hb dX2_pull_5 rfl hl (by decide) rfl (fun ls hl => ?_)
  refine lv_iload_n hx hb dX2_pull_6 rfl (lv_at hl 3 rfl) ?_
  refine vp_callSi (va_Run.run (va_runS (As := [.int sp]) (rest := []) ⟨hx, hb, hml, hown, hts⟩ (c_X2_isSpeed l9 sp) (va_cwS 1 hts gX2_pull_X2_isSpeed rfl rfl rfl (by decide +kernel) ⟨Nat.le_of_ble_eq_true rfl, Nat.le_of_ble_eq_true rfl⟩) ⟨fun a U g mk q => q, fun U hU hW => ⟨rfl, trivial⟩⟩ rfl rfl hl.1 rfl (lv_room (Nat.le_of_ble_eq_true rfl)) dX2_pull_7 ⟨Nat.le_of_ble_eq_true rfl, Nat.le_of_ble_eq_true rfl⟩)) (fun r hr => ?_)
  subst hr
  refine lv_if_ne (tgt := 23) hx hb dX2_pull_10 (by decide) (fun c_10 => ?_) (fun c_10 => ?_)
  · skip
    have c_10 := bi_nz.mp c_10
    refine lv_aload_n hx hb dX2_pull_23 rfl (lv_at hl 0 rfl) ?_
    refine lv_iload_n hx hb dX2_pull_24 rfl (lv_at hl 3 rfl) ?_
    have hq1 := one_P hP (cG_k hkn)
    refine vp_callSi (va_Run.run (va_runV (As := [.int sp]) (rest := []) ⟨hx, hb, hml, hown, hts⟩ (c_X1_pullIn l9 dC dI (ka k) k F sp (hI.kd k hkn)) (cwV 1 hts gX2_pull_X1_pullIn rfl rfl rfl (by decide +kernel) ⟨Nat.le_of_ble_eq_true rfl, Nat.le_of_ble_eq_true rfl⟩) ⟨PRo.blind, va_recv (hK.sub (tys' := []) [] rfl) hq1 (ci := 1) (q0 := 0) rfl rfl, PRo.pre hq1 (hK.sub (tys' := []) [] rfl) hE⟩ rfl rfl hl.1 rfl (lv_room (Nat.le_of_ble_eq_true rfl)) dX2_pull_25 ⟨Nat.le_of_ble_eq_true rfl, Nat.le_of_ble_eq_true rfl⟩)) (fun r hr => ?_)
    subst hr
    have hS9 : S_pull n F (nI k) sp = (0, pl F k sp) := by rw [S_pull, hixk]; exact if_pos c_10
    refine vx_ret ?_
    refine W.widen (k := 2) (n := 12) (Nat.le_of_ble_eq_true rfl) (Nat.le_of_ble_eq_true rfl) ?_
    exact W.iret (v := pl F k sp) hx hb hr (fun t ht hW => cQ_mk ka kb (by rw [hS9]) (by rw [hS9]) (by rw [ht]; exact hP) (hD) (hS.F ht)) hS.2.2 dX2_pull_28
  · skip
    have c_10 := bi_z.mp c_10
    have hS9 : S_pull n F (nI k) sp = (2, 0) := by rw [S_pull, hixk]; exact if_neg c_10
    obtain ⟨sa, hsa⟩ := hE.2.2.2 (170, "speed is out of range") (by decide +kernel)
    exact vx_throwS (own := RX2) (cls := "java/lang/IllegalArgumentException") (text := "speed is out of range") (names := ["java/lang/RuntimeException", "java/lang/Exception"]) (ik := 28) (is := 170) (ic := 32) (sa := sa) (A := A) hx hb hlt hown (by decide +kernel) (by decide +kernel) (hts (.classLink RX2 28 "java/lang/IllegalArgumentException") (by decide +kernel)) (hts (.initialized "java/lang/IllegalArgumentException") (by decide +kernel)) hsa (vx_hat (B := [.castable "java/lang/IllegalArgumentException" "java/lang/IllegalArgumentException", .declares dR, .declares dE, .declares dT]) (fun w hw => hts w (List.mem_cons_of_mem _ (List.mem_append_left _ (List.mem_append_right _ hw)))) (by decide +kernel) (vx_c (yc.use hE.2.1.1) (vx_c (va_Nw.use rfl hE.1.2.1) (vx_c (va_Nw.use rfl hE.1.2.2.1) (vx_c (va_Nw.use rfl hE.1.2.2.2) vx_n))))) (by decide +kernel) hH.1 hH.2 hS (hl.1.trans hml.symm) dX2_pull_13 dX2_pull_16 dX2_pull_17 dX2_pull_19 dX2_pull_22 (fun x hx => (hout x hx).elim) (Nat.le_of_ble_eq_true rfl) (Nat.le_of_ble_eq_true rfl) (Nat.le_of_ble_eq_true rfl) (Nat.le_of_ble_eq_true rfl) hlocks (fun t _ h1 h2 => ⟨(), trivial, Or.inr (⟨rfl, (by rw [hS9])⟩), h1, fun q hq _ => h2 q hq⟩) (fun z hz => absurd hz List.not_mem_nil) (Nat.le_of_ble_eq_true rfl) (Nat.le_of_ble_eq_true rfl)

set_option maxHeartbeats 4000000 in
set_option maxRecDepth 100000 in
theorem c_X2_pullAnew (l9 : Launch) (hlt : l9.stackTraces = false) (dC : Nat → ClassId) (dI : Nat → Nat → Nat) (sz : Nat) {tK tB : ClassId} (h ak ab af : Nat) (ka kb : Nat → Nat) (n p : Nat) (F : Rows) (its sp : Int32) (hI : Inv n p F) : vx_Met l9 yX2_pullAnew wsX2_pullAnew ({ frames := 7, cells := 2, slots := 12, locals := 104 }) (va_Pc [.ref h, .int its, .int sp] (PWr dC dI [(tK, .object "Windlane$Kite"), (tB, .object "Windlane$Borrower")] (cW tK tB h ak ab af ka kb n p F) sz)) (cQ dC dI tK tB h ak ab af (va_A (cW tK tB h ak ab af ka kb n p F) sz) n p F ((S_pull n F its sp).1) ((S_pull n F its sp).2)) (vx_X (fun _ : Unit => True) (fun E _ _ => (E = "java/lang/IndexOutOfBoundsException" ∧ (S_pull n F its sp).1 = 1) ∨ (E = "java/lang/IllegalArgumentException" ∧ (S_pull n F its sp).1 = 2)) (fun _ => False)) 2 12 (va_A (cW tK tB h ak ab af ka kb n p F) sz) := by
  refine vx_ofW (cc := cX2_pullAnew) (maxL := 4) (ret := (some .int)) (by decide) rfl ?_
  intro p9 e9 s m args below meth c s₁ B hml hout hv
  obtain ⟨rfl, hsz, hP, hK, hD0, hE, hH⟩ := hv
  have hx := B.exec
  have hb := B.bytes
  have hr := B.returns
  have hts := atoms_spec (ws := wsX2_pullAnew) B.pre
  have hown : s.vm.findClass RX2 = some m.cls := findClass_of_methodNamed B.named
  have hlocks := B.notSynchronized
  subst hsz
  have hD := hD0.self (sz := s.heap.size)
  generalize hAe : va_A (cW tK tB h ak ab af ka kb n p F) s.heap.size = A at hD hH ⊢
  have hA : ∀ q : Nat, s.heap.size ≤ q → A q := fun q h => by rw [← hAe]; exact Or.inr h
  have hS : va_S A s.heap s.heap [] := va_S.rf
  have hP : va_P (dC, dI) vwCl (cW tK tB h ak ab af ka kb n p F) s.heap := hP
  have hn8 : n ≤ 8 := hI.1.1
  have hp8 : p ≤ 8 := hI.1.2
  have hl := lv_entry ([.ref h, .int its, .int sp]) (n := 4) (Nat.le_of_ble_eq_true rfl)
  rw [lg_entry_eq]
  generalize (lg_sl ([.ref h, .int its, .int sp]) ++ List.replicate (4 - (lg_sl ([.ref h, .int its, .int sp])).length) Slot.unset).toArray = ls at hl ⊢
  have hl : lv_has ls 4 [(0, .ref h), (1, .int its), (2, .int sp)] := hl
  refine lv_aload_n hx hb dX2_pullAnew_0 rfl (lv_at hl 0 rfl) ?_
  refine lv_iload_n hx hb dX2_pullAnew_1 rfl (lv_at hl 1 rfl) ?_
  refine my_callXq (vx_runV (As := [.int its]) (rest := []) ⟨hx, hb, hml, hown, hts⟩ (c_X2_kiteAt l9 hlt dC dI s.heap.size h ak ab af ka kb n p F its hI.1.1) (cwV 1 hts gX2_pullAnew_X2_kiteAt rfl rfl rfl (by decide +kernel) ⟨Nat.le_of_ble_eq_true rfl, Nat.le_of_ble_eq_true rfl⟩) ⟨PWr.blind, va_recv hK hP (ci := 2) (q0 := 0) rfl rfl, PWr.pre hP hK hD hE (hH.narrow (A_in hD hS hA))⟩ rfl rfl hl.1 rfl (lv_room (Nat.le_of_ble_eq_true rfl)) dX2_pullAnew_2 ⟨Nat.le_of_ble_eq_true rfl, Nat.le_of_ble_eq_true rfl⟩) (fun E ce q9 H1 hBE hz1 hk1 hce hcv hcl => vx_out (fun x hx => (hout x hx).elim) hlocks hce hcv hcl (fun t ht _ => ⟨(), trivial, Or.inl (⟨hBE.1, by rw [S_pull, ix_f hBE.2]⟩), by rw [ht]; exact hz1, fun q hq _ => by rw [ht]; exact hk1 q hq⟩) (fun z hz => absurd hz List.not_mem_nil) (Nat.le_of_ble_eq_true rfl) (Nat.le_of_ble_eq_true rfl)) (fun r9 hr9 => ?_)
  obtain ⟨k, hkn, rfl, rfl⟩ := hr9
  have hixk : ix n (nI k) = some k := ix_t hkn (by omega)
  have hl : lv_has ls 4 [(0, .ref h), (1, .int (nI k)), (2, .int sp)] := hl
  refine W_top (x := va_rf (some (ka k))) (y := .ref (ka k)) rfl ?_
  refine lv_astore_n (lv' := [(3, .ref (ka k)), (0, .ref h), (1, .int (nI k)), (2, .int sp)]) hx hb dX2_pullAnew_5 rfl hl (by decide) rfl (fun ls hl => ?_)
  refine lv_iload_n hx hb dX2_pullAnew_6 rfl (lv_at hl 3 rfl) ?_
  refine vp_callSi (va_Run.run (va_runS (As := [.int sp]) (rest := []) ⟨hx, hb, hml, hown, hts⟩ (c_X2_isSpeed l9 sp) (va_cwS 1 hts gX2_pullAnew_X2_isSpeed rfl rfl rfl (by decide +kernel) ⟨Nat.le_of_ble_eq_true rfl, Nat.le_of_ble_eq_true rfl⟩) ⟨fun a U g mk q => q, fun U hU hW => ⟨rfl, trivial⟩⟩ rfl rfl hl.1 rfl (lv_room (Nat.le_of_ble_eq_true rfl)) dX2_pullAnew_7 ⟨Nat.le_of_ble_eq_true rfl, Nat.le_of_ble_eq_true rfl⟩)) (fun r hr => ?_)
  subst hr
  refine lv_if_ne (tgt := 23) hx hb dX2_pullAnew_10 (by decide) (fun c_10 => ?_) (fun c_10 => ?_)
  · skip
    have c_10 := bi_nz.mp c_10
    obtain ⟨m0, hm0, rfl⟩ : ∃ m0, m0 < 31 ∧ sp = nI m0 := inR_of (win_inR c_10 (by decide) (by decide))
    have hl : lv_has ls 4 [(3, .ref (ka k)), (0, .ref h), (1, .int (nI k)), (2, .int (nI m0))] := hl
    refine lv_aload_n hx hb dX2_pullAnew_23 rfl (lv_at hl 0 rfl) ?_
    refine lv_iload_n hx hb dX2_pullAnew_24 rfl (lv_at hl 3 rfl) ?_
    have hq1 := one_P hP (cG_k hkn)
    refine vp_callSi (va_Run.run (va_runV (As := [.int (nI m0)]) (rest := []) ⟨hx, hb, hml, hown, hts⟩ (c_X1_pullByStepsTo l9 dC dI (ka k) k F m0 (hI.kd k hkn) (by omega)) (cwV 1 hts gX2_pullAnew_X1_pullByStepsTo rfl rfl rfl (by decide +kernel) ⟨Nat.le_of_ble_eq_true rfl, Nat.le_of_ble_eq_true rfl⟩) ⟨PRo.blind, va_recv (hK.sub (tys' := []) [] rfl) hq1 (ci := 1) (q0 := 0) rfl rfl, PRo.pre hq1 (hK.sub (tys' := []) [] rfl) hE⟩ rfl rfl hl.1 rfl (lv_room (Nat.le_of_ble_eq_true rfl)) dX2_pullAnew_25 ⟨Nat.le_of_ble_eq_true rfl, Nat.le_of_ble_eq_true rfl⟩)) (fun r hr => ?_)
    subst hr
    have hS9 : S_pull n F (nI k) (nI m0) = (0, pl F k (nI m0)) := by rw [S_pull, hixk]; exact if_pos c_10
    refine vx_ret ?_
    refine W.widen (k := 2) (n := 12) (Nat.le_of_ble_eq_true rfl) (Nat.le_of_ble_eq_true rfl) ?_
    exact W.iret (v := pl F k (nI m0)) hx hb hr (fun t ht hW => cQ_mk ka kb (by rw [hS9]) (by rw [hS9]) (by rw [ht]; exact hP) (hD) (hS.F ht)) hS.2.2 dX2_pullAnew_28
  · skip
    have c_10 := bi_z.mp c_10
    have hS9 : S_pull n F (nI k) sp = (2, 0) := by rw [S_pull, hixk]; exact if_neg c_10
    obtain ⟨sa, hsa⟩ := hE.2.2.2 (170, "speed is out of range") (by decide +kernel)
    exact vx_throwS (own := RX2) (cls := "java/lang/IllegalArgumentException") (text := "speed is out of range") (names := ["java/lang/RuntimeException", "java/lang/Exception"]) (ik := 28) (is := 170) (ic := 32) (sa := sa) (A := A) hx hb hlt hown (by decide +kernel) (by decide +kernel) (hts (.classLink RX2 28 "java/lang/IllegalArgumentException") (by decide +kernel)) (hts (.initialized "java/lang/IllegalArgumentException") (by decide +kernel)) hsa (vx_hat (B := [.castable "java/lang/IllegalArgumentException" "java/lang/IllegalArgumentException", .declares dR, .declares dE, .declares dT]) (fun w hw => hts w (List.mem_cons_of_mem _ (List.mem_append_left _ (List.mem_append_right _ hw)))) (by decide +kernel) (vx_c (yc.use hE.2.1.1) (vx_c (va_Nw.use rfl hE.1.2.1) (vx_c (va_Nw.use rfl hE.1.2.2.1) (vx_c (va_Nw.use rfl hE.1.2.2.2) vx_n))))) (by decide +kernel) hH.1 hH.2 hS (hl.1.trans hml.symm) dX2_pullAnew_13 dX2_pullAnew_16 dX2_pullAnew_17 dX2_pullAnew_19 dX2_pullAnew_22 (fun x hx => (hout x hx).elim) (Nat.le_of_ble_eq_true rfl) (Nat.le_of_ble_eq_true rfl) (Nat.le_of_ble_eq_true rfl) (Nat.le_of_ble_eq_true rfl) hlocks (fun t _ h1 h2 => ⟨(), trivial, Or.inr (⟨rfl, (by rw [hS9])⟩), h1, fun q hq _ => h2 q hq⟩) (fun z hz => absurd hz List.not_mem_nil) (Nat.le_of_ble_eq_true rfl) (Nat.le_of_ble_eq_true rfl)

set_option maxHeartbeats 4000000 in
set_option maxRecDepth 100000 in
theorem c_X2_lane (l9 : Launch) (hlt : l9.stackTraces = false) (dC : Nat → ClassId) (dI : Nat → Nat → Nat) (sz : Nat) {tK tB : ClassId} (h ak ab af : Nat) (ka kb : Nat → Nat) (n p : Nat) (F : Rows) (ln : Int32) (hI : Inv n p F) : vx_Met l9 yX2_lane wsX2_lane ({ frames := 6, cells := 1, slots := 6, locals := 82 }) (va_Pc [.ref h, .int ln] (PWr dC dI [(tK, .object "Windlane$Kite"), (tB, .object "Windlane$Borrower")] (cW tK tB h ak ab af ka kb n p F) sz)) (cQ dC dI tK tB h ak ab af (va_A (cW tK tB h ak ab af ka kb n p F) sz) n p F ((S_lane n F ln).1) ((S_lane n F ln).2)) (vx_X (fun _ : Unit => True) (fun E _ _ => (E = "java/lang/IndexOutOfBoundsException" ∧ (S_lane n F ln).1 = 1)) (fun _ => False)) 1 6 (va_A (cW tK tB h ak ab af ka kb n p F) sz) := by
  refine vx_ofW (cc := cX2_lane) (maxL := 3) (ret := (some .int)) (by decide) rfl ?_
  intro p9 e9 s m args below meth c s₁ B hml hout hv
  obtain ⟨rfl, hsz, hP, hK, hD0, hE, hH⟩ := hv
  have hx := B.exec
  have hb := B.bytes
  have hr := B.returns
  have hts := atoms_spec (ws := wsX2_lane) B.pre
  have hown : s.vm.findClass RX2 = some m.cls := findClass_of_methodNamed B.named
  have hlocks := B.notSynchronized
  have hi1 : ∀ w ∈ u_ws RX1 TX1 9, w ∈ wsX2_lane := by decide +kernel
  have hi2 : ∀ w ∈ u_ws RX2 TX2 9, w ∈ wsX2_lane := by decide +kernel
  have lk21 := hts (.fieldLink RX2 21 "Windlane" "flyers" "[LWindlane$Kite;") (by decide +kernel)
  have lk98 := hts (.fieldLink RX2 98 "Windlane$Kite" "number" "I") (by decide +kernel)
  subst hsz
  have hD := hD0.self (sz := s.heap.size)
  generalize hAe : va_A (cW tK tB h ak ab af ka kb n p F) s.heap.size = A at hD hH ⊢
  have hA : ∀ q : Nat, s.heap.size ≤ q → A q := fun q h => by rw [← hAe]; exact Or.inr h
  have hS : va_S A s.heap s.heap [] := va_S.rf
  have hP : va_P (dC, dI) vwCl (cW tK tB h ak ab af ka kb n p F) s.heap := hP
  have hn8 : n ≤ 8 := hI.1.1
  have hp8 : p ≤ 8 := hI.1.2
  have hl := lv_entry ([.ref h, .int ln]) (n := 3) (Nat.le_of_ble_eq_true rfl)
  rw [lg_entry_eq]
  generalize (lg_sl ([.ref h, .int ln]) ++ List.replicate (3 - (lg_sl ([.ref h, .int ln])).length) Slot.unset).toArray = ls at hl ⊢
  have hl : lv_has ls 3 [(0, .ref h), (1, .int ln)] := hl
  rcases inR_cases 10 ln with ⟨l, hl10, rfl⟩ | hno
  · skip
    have hixl : ix 10 (nI l) = some l := ix_t hl10 (by omega)
    refine lv_iload_n hx hb dX2_lane_0 rfl (lv_at hl 1 rfl) ?_
    refine vp_callSi (va_Run.run (va_runS (As := [.int (nI l)]) (rest := []) ⟨hx, hb, hml, hown, hts⟩ (c_X2_isLane l9 (nI l)) (va_cwS 1 hts gX2_lane_X2_isLane rfl rfl rfl (by decide +kernel) ⟨Nat.le_of_ble_eq_true rfl, Nat.le_of_ble_eq_true rfl⟩) ⟨fun a U g mk q => q, fun U hU hW => ⟨rfl, trivial⟩⟩ rfl rfl hl.1 rfl (lv_room (Nat.le_of_ble_eq_true rfl)) dX2_lane_1 ⟨Nat.le_of_ble_eq_true rfl, Nat.le_of_ble_eq_true rfl⟩)) (fun r hr => ?_)
    subst hr
    refine lv_if_ne (tgt := 17) hx hb dX2_lane_4 (by decide) (fun _ => ?_) (fun c_4 => absurd c_4 (bi_nz.mpr (inR_nI hl10 (by decide))))
    refine lv_aload_n hx hb dX2_lane_17 rfl (lv_at hl 0 rfl) ?_
    refine va_get (D := (dC, dI)) (ci := 2) (v := .ref af) (C := RX2) (T := TX2) (N := 9) hx hb hts hi2 hown hK hP 0 rfl rfl 4 (by decide) lk21 (fun _ h9 => h9) rfl dX2_lane_18 ?_
    refine lv_iload_n hx hb dX2_lane_21 rfl (lv_at hl 1 rfl) ?_
    refine my_aldq hx hb hK hP 3 0 rfl rfl hl10 (Nat.le_of_ble_eq_true rfl) dX2_lane_22 ?_
    rcases hlk : lk (F 6) n (nI l) with _ | k
    · skip
      refine W_top (y := .null) (show va_rf ((flF F n l).map ka) = _ by rw [flF_at hl10, hlk]; rfl) ?_
      refine lv_astore_nN (lv' := [(2, .null), (0, .ref h), (1, .int (nI l))]) hx hb dX2_lane_23 rfl hl (by decide) rfl (fun ls hl => ?_)
      refine lv_aload_nN hx hb dX2_lane_24 rfl (lv_at hl 0 rfl) ?_
      refine lv_ifnonnullN hx hb dX2_lane_25 ?_
      refine lv_iconst (v := (-1)) hx hb dX2_lane_28 (by decide) ?_
      refine lv_goto (tgt := 36) hx hb dX2_lane_29 (by decide) ?_
      have hS9 : S_lane n F (nI l) = (0, (-1)) := by rw [S_lane, hixl]; exact congrArg (fun z => ((0 : Int32), oI z)) hlk
      refine vx_ret ?_
      refine W.widen (k := 1) (n := 6) (Nat.le_of_ble_eq_true rfl) (Nat.le_of_ble_eq_true rfl) ?_
      exact W.iret (v := (-1)) hx hb hr (fun t ht hW => cQ_mk ka kb (by rw [hS9]) (by rw [hS9]) (by rw [ht]; exact hP) (hD) (hS.F ht)) hS.2.2 dX2_lane_36
    · skip
      refine W_top (y := .ref (ka k)) (show va_rf ((flF F n l).map ka) = _ by rw [flF_at hl10, hlk]; rfl) ?_
      have hlkn : k < n := (lk_some hlk).1
      refine lv_astore_n (lv' := [(2, .ref (ka k)), (0, .ref h), (1, .int (nI l))]) hx hb dX2_lane_23 rfl hl (by decide) rfl (fun ls hl => ?_)
      refine lv_aload_n hx hb dX2_lane_24 rfl (lv_at hl 0 rfl) ?_
      refine lv_ifnonnull (tgt := 32) hx hb dX2_lane_25 (by decide) ?_
      refine lv_aload_n hx hb dX2_lane_32 rfl (lv_at hl 0 rfl) ?_
      refine va_get (D := (dC, dI)) (ci := 1) (v := .int (nI k)) (C := RX1) (T := TX1) (N := 9) hx hb hts hi1 hown hK hP (k + 4) (cG_k hlkn) rfl 0 (by decide) lk98 (fun _ h9 => h9) rfl dX2_lane_33 ?_
      have hS9 : S_lane n F (nI l) = (0, nI k) := by rw [S_lane, hixl]; exact congrArg (fun z => ((0 : Int32), oI z)) hlk
      refine vx_ret ?_
      refine W.widen (k := 1) (n := 6) (Nat.le_of_ble_eq_true rfl) (Nat.le_of_ble_eq_true rfl) ?_
      exact W.iret (v := nI k) hx hb hr (fun t ht hW => cQ_mk ka kb (by rw [hS9]) (by rw [hS9]) (by rw [ht]; exact hP) (hD) (hS.F ht)) hS.2.2 dX2_lane_36
  · skip
    refine lv_iload_n hx hb dX2_lane_0 rfl (lv_at hl 1 rfl) ?_
    refine vp_callSi (va_Run.run (va_runS (As := [.int ln]) (rest := []) ⟨hx, hb, hml, hown, hts⟩ (c_X2_isLane l9 ln) (va_cwS 1 hts gX2_lane_X2_isLane rfl rfl rfl (by decide +kernel) ⟨Nat.le_of_ble_eq_true rfl, Nat.le_of_ble_eq_true rfl⟩) ⟨fun a U g mk q => q, fun U hU hW => ⟨rfl, trivial⟩⟩ rfl rfl hl.1 rfl (lv_room (Nat.le_of_ble_eq_true rfl)) dX2_lane_1 ⟨Nat.le_of_ble_eq_true rfl, Nat.le_of_ble_eq_true rfl⟩)) (fun r hr => ?_)
    subst hr
    refine lv_if_ne (tgt := 17) hx hb dX2_lane_4 (by decide) (fun c_4 => absurd (bi_f hno) c_4) (fun _ => ?_)
    have hS9 : S_lane n F ln = (1, 0) := by rw [S_lane, ix_f hno]
    obtain ⟨sa, hsa⟩ := hE.2.2.2 (107, "there is no such lane") (by decide +kernel)
    exact vx_throwS (own := RX2) (cls := "java/lang/IndexOutOfBoundsException") (text := "there is no such lane") (names := ["java/lang/RuntimeException", "java/lang/Exception"]) (ik := 105) (is := 107) (ic := 109) (sa := sa) (A := A) hx hb hlt hown (by decide +kernel) (by decide +kernel) (hts (.classLink RX2 105 "java/lang/IndexOutOfBoundsException") (by decide +kernel)) (hts (.initialized "java/lang/IndexOutOfBoundsException") (by decide +kernel)) hsa (vx_hat (B := [.castable "java/lang/IndexOutOfBoundsException" "java/lang/IndexOutOfBoundsException", .declares dR, .declares dE, .declares dT]) (fun w hw => hts w (List.mem_cons_of_mem _ (List.mem_append_right _ hw))) (by decide +kernel) (vx_c (yc.use hE.2.1.2.2) (vx_c (va_Nw.use rfl hE.1.2.1) (vx_c (va_Nw.use rfl hE.1.2.2.1) (vx_c (va_Nw.use rfl hE.1.2.2.2) vx_n))))) (by decide +kernel) hH.1 hH.2 hS (hl.1.trans hml.symm) dX2_lane_7 dX2_lane_10 dX2_lane_11 dX2_lane_13 dX2_lane_16 (fun x hx => (hout x hx).elim) (Nat.le_of_ble_eq_true rfl) (Nat.le_of_ble_eq_true rfl) (Nat.le_of_ble_eq_true rfl) (Nat.le_of_ble_eq_true rfl) hlocks (fun t _ h1 h2 => ⟨(), trivial, ⟨rfl, (by rw [hS9])⟩, h1, fun q hq _ => h2 q hq⟩) (fun z hz => absurd hz List.not_mem_nil) (Nat.le_of_ble_eq_true rfl) (Nat.le_of_ble_eq_true rfl)

set_option maxHeartbeats 4000000 in
set_option maxRecDepth 100000 in
theorem c_X2_about (l9 : Launch) (hlt : l9.stackTraces = false) (dC : Nat → ClassId) (dI : Nat → Nat → Nat) (sz : Nat) {tK tB : ClassId} (h ak ab af : Nat) (ka kb : Nat → Nat) (n p : Nat) (F : Rows) (its wh : Int32) (hI : Inv n p F) : vx_Met l9 yX2_about wsX2_about ({ frames := 7, cells := 2, slots := 12, locals := 104 }) (va_Pc [.ref h, .int its, .int wh] (PWr dC dI [(tK, .object "Windlane$Kite"), (tB, .object "Windlane$Borrower")] (cW tK tB h ak ab af ka kb n p F) sz)) (cQ dC dI tK tB h ak ab af (va_A (cW tK tB h ak ab af ka kb n p F) sz) n p F ((S_about n F its wh).1) ((S_about n F its wh).2)) (vx_X (fun _ : Unit => True) (fun E _ _ => (E = "java/lang/IndexOutOfBoundsException" ∧ (S_about n F its wh).1 = 1) ∨ (E = "java/lang/IllegalArgumentException" ∧ (S_about n F its wh).1 = 2)) (fun _ => False)) 2 12 (va_A (cW tK tB h ak ab af ka kb n p F) sz) := by
  refine vx_ofW (cc := cX2_about) (maxL := 4) (ret := (some .int)) (by decide) rfl ?_
  intro p9 e9 s m args below meth c s₁ B hml hout hv
  obtain ⟨rfl, hsz, hP, hK, hD0, hE, hH⟩ := hv
  have hx := B.exec
  have hb := B.bytes
  have hr := B.returns
  have hts := atoms_spec (ws := wsX2_about) B.pre
  have hown : s.vm.findClass RX2 = some m.cls := findClass_of_methodNamed B.named
  have hlocks := B.notSynchronized
  have hi1 : ∀ w ∈ u_ws RX1 TX1 9, w ∈ wsX2_about := by decide +kernel
  have hi2 : ∀ w ∈ u_ws RX2 TX2 9, w ∈ wsX2_about := by decide +kernel
  have lk51 := hts (.fieldLink RX2 51 "Windlane$Kite" "isTorn" "Z") (by decide +kernel)
  have lk57 := hts (.fieldLink RX2 57 "Windlane$Kite" "weight" "I") (by decide +kernel)
  have lk86 := hts (.fieldLink RX2 86 "Windlane$Kite" "borrower" "I") (by decide +kernel)
  have lk112 := hts (.fieldLink RX2 112 "Windlane" "windSpeed" "I") (by decide +kernel)
  have lk120 := hts (.fieldLink RX2 120 "Windlane" "windSide" "I") (by decide +kernel)
  have lk133 := hts (.fieldLink RX2 133 "Windlane$Kite" "lane" "I") (by decide +kernel)
  have lk190 := hts (.fieldLink RX2 190 "Windlane$Kite" "wetHours" "I") (by decide +kernel)
  subst hsz
  have hD := hD0.self (sz := s.heap.size)
  generalize hAe : va_A (cW tK tB h ak ab af ka kb n p F) s.heap.size = A at hD hH ⊢
  have hA : ∀ q : Nat, s.heap.size ≤ q → A q := fun q h => by rw [← hAe]; exact Or.inr h
  have hS : va_S A s.heap s.heap [] := va_S.rf
  have hP : va_P (dC, dI) vwCl (cW tK tB h ak ab af ka kb n p F) s.heap := hP
  have hn8 : n ≤ 8 := hI.1.1
  have hp8 : p ≤ 8 := hI.1.2
  have hl := lv_entry ([.ref h, .int its, .int wh]) (n := 4) (Nat.le_of_ble_eq_true rfl)
  rw [lg_entry_eq]
  generalize (lg_sl ([.ref h, .int its, .int wh]) ++ List.replicate (4 - (lg_sl ([.ref h, .int its, .int wh])).length) Slot.unset).toArray = ls at hl ⊢
  have hl : lv_has ls 4 [(0, .ref h), (1, .int its), (2, .int wh)] := hl
  refine lv_aload_n hx hb dX2_about_0 rfl (lv_at hl 0 rfl) ?_
  refine lv_iload_n hx hb dX2_about_1 rfl (lv_at hl 1 rfl) ?_
  refine my_callXq (vx_runV (As := [.int its]) (rest := []) ⟨hx, hb, hml, hown, hts⟩ (c_X2_kiteAt l9 hlt dC dI s.heap.size h ak ab af ka kb n p F its hI.1.1) (cwV 1 hts gX2_about_X2_kiteAt rfl rfl rfl (by decide +kernel) ⟨Nat.le_of_ble_eq_true rfl, Nat.le_of_ble_eq_true rfl⟩) ⟨PWr.blind, va_recv hK hP (ci := 2) (q0 := 0) rfl rfl, PWr.pre hP hK hD hE (hH.narrow (A_in hD hS hA))⟩ rfl rfl hl.1 rfl (lv_room (Nat.le_of_ble_eq_true rfl)) dX2_about_2 ⟨Nat.le_of_ble_eq_true rfl, Nat.le_of_ble_eq_true rfl⟩) (fun E ce q9 H1 hBE hz1 hk1 hce hcv hcl => vx_out (fun x hx => (hout x hx).elim) hlocks hce hcv hcl (fun t ht _ => ⟨(), trivial, Or.inl (⟨hBE.1, by rw [S_about, ix_f hBE.2]⟩), by rw [ht]; exact hz1, fun q hq _ => by rw [ht]; exact hk1 q hq⟩) (fun z hz => absurd hz List.not_mem_nil) (Nat.le_of_ble_eq_true rfl) (Nat.le_of_ble_eq_true rfl)) (fun r9 hr9 => ?_)
  obtain ⟨k, hkn, rfl, rfl⟩ := hr9
  have hixk : ix n (nI k) = some k := ix_t hkn (by omega)
  have hl : lv_has ls 4 [(0, .ref h), (1, .int (nI k)), (2, .int wh)] := hl
  refine W_top (x := va_rf (some (ka k))) (y := .ref (ka k)) rfl ?_
  refine lv_astore_n (lv' := [(3, .ref (ka k)), (0, .ref h), (1, .int (nI k)), (2, .int wh)]) hx hb dX2_about_5 rfl hl (by decide) rfl (fun ls hl => ?_)
  refine lv_iload_n hx hb dX2_about_6 rfl (lv_at hl 3 rfl) ?_
  rcases inR_cases 6 wh with ⟨v9, hv9, rfl⟩ | hno
  · skip
    obtain rfl | rfl | rfl | rfl | rfl | rfl : v9 = 0 ∨ v9 = 1 ∨ v9 = 2 ∨ v9 = 3 ∨ v9 = 4 ∨ v9 = 5 := by omega
    · skip
      refine lv_tableIn (off := 37) (tgt := 44) hx hb dX2_about_7 (by decide) (by decide) (by decide) (by decide) ?_
      refine lv_aload_n hx hb dX2_about_44 rfl (lv_at hl 0 rfl) ?_
      refine va_get (D := (dC, dI)) (ci := 1) (v := .int (F 2 k)) (C := RX1) (T := TX1) (N := 9) hx hb hts hi1 hown hK hP (k + 4) (cG_k hkn) rfl 3 (by decide) lk57 (fun _ h9 => h9) rfl dX2_about_45 ?_
      have hS9 : S_about n F (nI k) (nI 0) = (0, F 2 k) := by rw [S_about, hixk]; rfl
      refine vx_ret ?_
      refine W.widen (k := 2) (n := 12) (Nat.le_of_ble_eq_true rfl) (Nat.le_of_ble_eq_true rfl) ?_
      exact W.iret (v := F 2 k) hx hb hr (fun t ht hW => cQ_mk ka kb (by rw [hS9]) (by rw [hS9]) (by rw [ht]; exact hP) (hD) (hS.F ht)) hS.2.2 dX2_about_48
    · skip
      refine lv_tableIn (off := 42) (tgt := 49) hx hb dX2_about_7 (by decide) (by decide) (by decide) (by decide) ?_
      refine lv_aload_n hx hb dX2_about_49 rfl (lv_at hl 0 rfl) ?_
      refine va_get (D := (dC, dI)) (ci := 1) (v := .int (F 3 k)) (C := RX1) (T := TX1) (N := 9) hx hb hts hi1 hown hK hP (k + 4) (cG_k hkn) rfl 4 (by decide) lk51 (fun _ h9 => h9) rfl dX2_about_50 ?_
      refine lv_if_eq (tgt := 60) hx hb dX2_about_53 (by decide) (fun c_53 => ?_) (fun c_53 => ?_)
      · skip
        refine lv_iconst (v := 0) hx hb dX2_about_60 (by decide) ?_
        have hS9 : S_about n F (nI k) (nI 1) = (0, 0) := by rw [S_about, hixk]; exact congrArg (fun z => ((0 : Int32), z)) (c_53)
        refine vx_ret ?_
        refine W.widen (k := 2) (n := 12) (Nat.le_of_ble_eq_true rfl) (Nat.le_of_ble_eq_true rfl) ?_
        exact W.iret (v := 0) hx hb hr (fun t ht hW => cQ_mk ka kb (by rw [hS9]) (by rw [hS9]) (by rw [ht]; exact hP) (hD) (hS.F ht)) hS.2.2 dX2_about_61
      · skip
        refine lv_iconst (v := 1) hx hb dX2_about_56 (by decide) ?_
        refine lv_goto (tgt := 61) hx hb dX2_about_57 (by decide) ?_
        have hS9 : S_about n F (nI k) (nI 1) = (0, 1) := by rw [S_about, hixk]; exact congrArg (fun z => ((0 : Int32), z)) ((hI.2.1 k hkn).2.2.2.1.resolve_left c_53)
        refine vx_ret ?_
        refine W.widen (k := 2) (n := 12) (Nat.le_of_ble_eq_true rfl) (Nat.le_of_ble_eq_true rfl) ?_
        exact W.iret (v := 1) hx hb hr (fun t ht hW => cQ_mk ka kb (by rw [hS9]) (by rw [hS9]) (by rw [ht]; exact hP) (hD) (hS.F ht)) hS.2.2 dX2_about_61
    · skip
      refine lv_tableIn (off := 55) (tgt := 62) hx hb dX2_about_7 (by decide) (by decide) (by decide) (by decide) ?_
      refine lv_aload_n hx hb dX2_about_62 rfl (lv_at hl 0 rfl) ?_
      refine va_get (D := (dC, dI)) (ci := 1) (v := .int (F 4 k)) (C := RX1) (T := TX1) (N := 9) hx hb hts hi1 hown hK hP (k + 4) (cG_k hkn) rfl 5 (by decide) lk190 (fun _ h9 => h9) rfl dX2_about_63 ?_
      have hS9 : S_about n F (nI k) (nI 2) = (0, F 4 k) := by rw [S_about, hixk]; rfl
      refine vx_ret ?_
      refine W.widen (k := 2) (n := 12) (Nat.le_of_ble_eq_true rfl) (Nat.le_of_ble_eq_true rfl) ?_
      exact W.iret (v := F 4 k) hx hb hr (fun t ht hW => cQ_mk ka kb (by rw [hS9]) (by rw [hS9]) (by rw [ht]; exact hP) (hD) (hS.F ht)) hS.2.2 dX2_about_66
    · skip
      refine lv_tableIn (off := 60) (tgt := 67) hx hb dX2_about_7 (by decide) (by decide) (by decide) (by decide) ?_
      refine lv_aload_n hx hb dX2_about_67 rfl (lv_at hl 0 rfl) ?_
      refine va_get (D := (dC, dI)) (ci := 1) (v := .int (F 5 k)) (C := RX1) (T := TX1) (N := 9) hx hb hts hi1 hown hK hP (k + 4) (cG_k hkn) rfl 6 (by decide) lk86 (fun _ h9 => h9) rfl dX2_about_68 ?_
      have hS9 : S_about n F (nI k) (nI 3) = (0, F 5 k) := by rw [S_about, hixk]; rfl
      refine vx_ret ?_
      refine W.widen (k := 2) (n := 12) (Nat.le_of_ble_eq_true rfl) (Nat.le_of_ble_eq_true rfl) ?_
      exact W.iret (v := F 5 k) hx hb hr (fun t ht hW => cQ_mk ka kb (by rw [hS9]) (by rw [hS9]) (by rw [ht]; exact hP) (hD) (hS.F ht)) hS.2.2 dX2_about_71
    · skip
      refine lv_tableIn (off := 65) (tgt := 72) hx hb dX2_about_7 (by decide) (by decide) (by decide) (by decide) ?_
      refine lv_aload_n hx hb dX2_about_72 rfl (lv_at hl 0 rfl) ?_
      refine va_get (D := (dC, dI)) (ci := 1) (v := .int (F 6 k)) (C := RX1) (T := TX1) (N := 9) hx hb hts hi1 hown hK hP (k + 4) (cG_k hkn) rfl 7 (by decide) lk133 (fun _ h9 => h9) rfl dX2_about_73 ?_
      have hS9 : S_about n F (nI k) (nI 4) = (0, F 6 k) := by rw [S_about, hixk]; rfl
      refine vx_ret ?_
      refine W.widen (k := 2) (n := 12) (Nat.le_of_ble_eq_true rfl) (Nat.le_of_ble_eq_true rfl) ?_
      exact W.iret (v := F 6 k) hx hb hr (fun t ht hW => cQ_mk ka kb (by rw [hS9]) (by rw [hS9]) (by rw [ht]; exact hP) (hD) (hS.F ht)) hS.2.2 dX2_about_76
    · skip
      refine lv_tableIn (off := 70) (tgt := 77) hx hb dX2_about_7 (by decide) (by decide) (by decide) (by decide) ?_
      refine lv_aload_n hx hb dX2_about_77 rfl (lv_at hl 0 rfl) ?_
      have hq1 := one_P hP (cG_k hkn)
      refine vp_callSi (va_Run.run (va_runV (As := []) (rest := []) ⟨hx, hb, hml, hown, hts⟩ (c_X1_isFlying l9 dC dI (ka k) k F) (cwV 0 hts gX2_about_X1_isFlying rfl rfl rfl (by decide +kernel) ⟨Nat.le_of_ble_eq_true rfl, Nat.le_of_ble_eq_true rfl⟩) ⟨PRo.blind, va_recv (hK.sub (tys' := []) [] rfl) hq1 (ci := 1) (q0 := 0) rfl rfl, PRo.pre hq1 (hK.sub (tys' := []) [] rfl) hE⟩ rfl rfl hl.1 rfl (lv_room (Nat.le_of_ble_eq_true rfl)) dX2_about_78 ⟨Nat.le_of_ble_eq_true rfl, Nat.le_of_ble_eq_true rfl⟩)) (fun r hr => ?_)
      subst hr
      refine lv_if_eq (tgt := 99) hx hb dX2_about_81 (by decide) (fun c_81 => ?_) (fun c_81 => ?_)
      · skip
        have c_81 := bi_z.mp c_81
        refine lv_iconst (v := (-1)) hx hb dX2_about_99 (by decide) ?_
        have hS9 : S_about n F (nI k) (nI 5) = (0, (-1)) := by rw [S_about, hixk]; exact congrArg (fun z => ((0 : Int32), z)) (if_pos (Decidable.not_not.mp c_81))
        refine vx_ret ?_
        refine W.widen (k := 2) (n := 12) (Nat.le_of_ble_eq_true rfl) (Nat.le_of_ble_eq_true rfl) ?_
        exact W.iret (v := (-1)) hx hb hr (fun t ht hW => cQ_mk ka kb (by rw [hS9]) (by rw [hS9]) (by rw [ht]; exact hP) (hD) (hS.F ht)) hS.2.2 dX2_about_100
      · skip
        have c_81 := bi_nz.mp c_81
        refine lv_aload_n hx hb dX2_about_84 rfl (lv_at hl 0 rfl) ?_
        refine lv_aload_n hx hb dX2_about_85 rfl (lv_at hl 1 rfl) ?_
        refine va_get (D := (dC, dI)) (ci := 2) (v := .int (F 9 0)) (C := RX2) (T := TX2) (N := 9) hx hb hts hi2 hown hK hP 0 rfl rfl 5 (by decide) lk112 (fun _ h9 => h9) rfl dX2_about_86 ?_
        refine lv_aload_n hx hb dX2_about_89 rfl (lv_at hl 1 rfl) ?_
        refine va_get (D := (dC, dI)) (ci := 2) (v := .int (F 9 1)) (C := RX2) (T := TX2) (N := 9) hx hb hts hi2 hown hK hP 0 rfl rfl 6 (by decide) lk120 (fun _ h9 => h9) rfl dX2_about_90 ?_
        have hq1 := one_P hP (cG_k hkn)
        refine vp_callSi (va_Run.run (va_runV (As := [.int (F 9 0), .int (F 9 1)]) (rest := []) ⟨hx, hb, hml, hown, hts⟩ (c_X1_endIn l9 dC dI (ka k) k F (F 9 0) (F 9 1) (hI.kd k hkn) (st_ok (hI.fl k hkn c_81))) (cwV 2 hts gX2_about_X1_endIn rfl rfl rfl (by decide +kernel) ⟨Nat.le_of_ble_eq_true rfl, Nat.le_of_ble_eq_true rfl⟩) ⟨PRo.blind, va_recv (hK.sub (tys' := []) [] rfl) hq1 (ci := 1) (q0 := 0) rfl rfl, PRo.pre hq1 (hK.sub (tys' := []) [] rfl) hE⟩ rfl rfl hl.1 rfl (lv_room (Nat.le_of_ble_eq_true rfl)) dX2_about_93 ⟨Nat.le_of_ble_eq_true rfl, Nat.le_of_ble_eq_true rfl⟩)) (fun r hr => ?_)
        subst hr
        refine W_top (y := .int (ed F k)) (rfl) ?_
        refine lv_goto (tgt := 100) hx hb dX2_about_96 (by decide) ?_
        have hS9 : S_about n F (nI k) (nI 5) = (0, ed F k) := by rw [S_about, hixk]; exact congrArg (fun z => ((0 : Int32), z)) (if_neg c_81)
        refine vx_ret ?_
        refine W.widen (k := 2) (n := 12) (Nat.le_of_ble_eq_true rfl) (Nat.le_of_ble_eq_true rfl) ?_
        exact W.iret (v := ed F k) hx hb hr (fun t ht hW => cQ_mk ka kb (by rw [hS9]) (by rw [hS9]) (by rw [ht]; exact hP) (hD) (hS.F ht)) hS.2.2 dX2_about_100
  · skip
    refine lv_tableOut (tgt := 101) hx hb dX2_about_7 (Decidable.byContradiction (fun q => hno ⟨by omega, by omega⟩)) (by decide) ?_
    have hw9 : ∀ v : Int32, inR 6 v → ¬ wh = v := fun v hv q => hno (q ▸ hv)
    have hS9 : S_about n F (nI k) wh = (2, 0) := by rw [S_about, hixk]; show (if wh = 0 then _ else if wh = 1 then _ else if wh = 2 then _ else if wh = 3 then _ else if wh = 4 then _ else if wh = 5 then _ else _) = _; rw [if_neg (hw9 0 (by decide)), if_neg (hw9 1 (by decide)), if_neg (hw9 2 (by decide)), if_neg (hw9 3 (by decide)), if_neg (hw9 4 (by decide)), if_neg (hw9 5 (by decide))]
    obtain ⟨sa, hsa⟩ := hE.2.2.2 (197, "what is out of range") (by decide +kernel)
    exact vx_throwS (own := RX2) (cls := "java/lang/IllegalArgumentException") (text := "what is out of range") (names := ["java/lang/RuntimeException", "java/lang/Exception"]) (ik := 28) (is := 197) (ic := 32) (sa := sa) (A := A) hx hb hlt hown (by decide +kernel) (by decide +kernel) (hts (.classLink RX2 28 "java/lang/IllegalArgumentException") (by decide +kernel)) (hts (.initialized "java/lang/IllegalArgumentException") (by decide +kernel)) hsa (vx_hat (B := [.castable "java/lang/IllegalArgumentException" "java/lang/IllegalArgumentException", .declares dR, .declares dE, .declares dT]) (fun w hw => hts w (List.mem_cons_of_mem _ (List.mem_append_left _ (List.mem_append_right _ hw)))) (by decide +kernel) (vx_c (yc.use hE.2.1.1) (vx_c (va_Nw.use rfl hE.1.2.1) (vx_c (va_Nw.use rfl hE.1.2.2.1) (vx_c (va_Nw.use rfl hE.1.2.2.2) vx_n))))) (by decide +kernel) hH.1 hH.2 hS (hl.1.trans hml.symm) dX2_about_101 dX2_about_104 dX2_about_105 dX2_about_107 dX2_about_110 (fun x hx => (hout x hx).elim) (Nat.le_of_ble_eq_true rfl) (Nat.le_of_ble_eq_true rfl) (Nat.le_of_ble_eq_true rfl) (Nat.le_of_ble_eq_true rfl) hlocks (fun t _ h1 h2 => ⟨(), trivial, Or.inr (⟨rfl, (by rw [hS9])⟩), h1, fun q hq _ => h2 q hq⟩) (fun z hz => absurd hz List.not_mem_nil) (Nat.le_of_ble_eq_true rfl) (Nat.le_of_ble_eq_true rfl)

theorem wd_down {F : Rows} {k : Nat} {g : Int32} {m : Nat} (hg : ¬ g = 0) (h : held F k (nI m)) : wd F k g (m + 1) = nI m := by rw [wd, if_pos ⟨h, Or.inl hg⟩]
theorem wd_skip {F : Rows} {k : Nat} {g : Int32} {m : Nat} (h : ¬ held F k (nI m)) : wd F k g (m + 1) = wd F k g m := by rw [wd, if_neg (fun q => h q.1)]
theorem wd_up {F : Rows} {k m : Nat} (h : held F k (nI m)) (hm : m < 31) (hno : wd F k 0 m = -1) : ∀ {r : Nat}, m < r → wd F k 0 r = nI m
  | 0, h0 => absurd h0 (Nat.not_lt_zero m)
  | r + 1, h0 => by
    rcases Nat.lt_or_ge m r with q | q
    · have e := wd_up h hm hno q
      rw [wd, if_neg (fun z => z.2.elim (fun y => y rfl) (fun y => by rw [e] at y; exact nI_m1 (by omega) y)), e]
    · have : m = r := by omega
      subst this
      rw [wd, if_pos ⟨h, Or.inr hno⟩]

set_option maxHeartbeats 4000000 in
set_option maxRecDepth 100000 in
theorem c_X2_window (l9 : Launch) (hlt : l9.stackTraces = false) (dC : Nat → ClassId) (dI : Nat → Nat → Nat) (sz : Nat) {tK tB : ClassId} (h ak ab af : Nat) (ka kb : Nat → Nat) (n p : Nat) (F : Rows) (its g0 : Int32) (hI : Inv n p F) : vx_Met l9 yX2_window wsX2_window ({ frames := 7, cells := 1, slots := 6, locals := 104 }) (va_Pc [.ref h, .int its, .int g0] (PWr dC dI [(tK, .object "Windlane$Kite"), (tB, .object "Windlane$Borrower")] (cW tK tB h ak ab af ka kb n p F) sz)) (cQ dC dI tK tB h ak ab af (va_A (cW tK tB h ak ab af ka kb n p F) sz) n p F ((S_window n F its g0).1) ((S_window n F its g0).2)) (vx_X (fun _ : Unit => True) (fun E _ _ => (E = "java/lang/IndexOutOfBoundsException" ∧ (S_window n F its g0).1 = 1)) (fun _ => False)) 1 6 (va_A (cW tK tB h ak ab af ka kb n p F) sz) := by
  refine vx_ofW (cc := cX2_window) (maxL := 6) (ret := (some .int)) (by decide) rfl ?_
  intro p9 e9 s m args below meth c s₁ B hml hout hv
  obtain ⟨rfl, hsz, hP, hK, hD0, hE, hH⟩ := hv
  have hx := B.exec
  have hb := B.bytes
  have hr := B.returns
  have hts := atoms_spec (ws := wsX2_window) B.pre
  have hown : s.vm.findClass RX2 = some m.cls := findClass_of_methodNamed B.named
  have hlocks := B.notSynchronized
  subst hsz
  have hD := hD0.self (sz := s.heap.size)
  generalize hAe : va_A (cW tK tB h ak ab af ka kb n p F) s.heap.size = A at hD hH ⊢
  have hA : ∀ q : Nat, s.heap.size ≤ q → A q := fun q h => by rw [← hAe]; exact Or.inr h
  have hS : va_S A s.heap s.heap [] := va_S.rf
  have hP : va_P (dC, dI) vwCl (cW tK tB h ak ab af ka kb n p F) s.heap := hP
  have hn8 : n ≤ 8 := hI.1.1
  have hp8 : p ≤ 8 := hI.1.2
  have hl := lv_entry ([.ref h, .int its, .int g0]) (n := 6) (Nat.le_of_ble_eq_true rfl)
  rw [lg_entry_eq]
  generalize (lg_sl ([.ref h, .int its, .int g0]) ++ List.replicate (6 - (lg_sl ([.ref h, .int its, .int g0])).length) Slot.unset).toArray = ls at hl ⊢
  have hl : lv_has ls 6 [(0, .ref h), (1, .int its), (2, .int g0)] := hl
  refine lv_aload_n hx hb dX2_window_0 rfl (lv_at hl 0 rfl) ?_
  refine lv_iload_n hx hb dX2_window_1 rfl (lv_at hl 1 rfl) ?_
  refine my_callXq (vx_runV (As := [.int its]) (rest := []) ⟨hx, hb, hml, hown, hts⟩ (c_X2_kiteAt l9 hlt dC dI s.heap.size h ak ab af ka kb n p F its hI.1.1) (cwV 1 hts gX2_window_X2_kiteAt rfl rfl rfl (by decide +kernel) ⟨Nat.le_of_ble_eq_true rfl, Nat.le_of_ble_eq_true rfl⟩) ⟨PWr.blind, va_recv hK hP (ci := 2) (q0 := 0) rfl rfl, PWr.pre hP hK hD hE (hH.narrow (A_in hD hS hA))⟩ rfl rfl hl.1 rfl (lv_room (Nat.le_of_ble_eq_true rfl)) dX2_window_2 ⟨Nat.le_of_ble_eq_true rfl, Nat.le_of_ble_eq_true rfl⟩) (fun E ce q9 H1 hBE hz1 hk1 hce hcv hcl => vx_out (fun x hx => (hout x hx).elim) hlocks hce hcv hcl (fun t ht _ => ⟨(), trivial, ⟨hBE.1, by rw [S_window, ix_f hBE.2]⟩, by rw [ht]; exact hz1, fun q hq _ => by rw [ht]; exact hk1 q hq⟩) (fun z hz => absurd hz List.not_mem_nil) (Nat.le_of_ble_eq_true rfl) (Nat.le_of_ble_eq_true rfl)) (fun r9 hr9 => ?_)
  obtain ⟨k, hkn, rfl, rfl⟩ := hr9
  have hixk : ix n (nI k) = some k := ix_t hkn (by omega)
  have hl : lv_has ls 6 [(0, .ref h), (1, .int (nI k)), (2, .int g0)] := hl
  refine W_top (x := va_rf (some (ka k))) (y := .ref (ka k)) rfl ?_
  refine lv_astore_n (lv' := [(3, .ref (ka k)), (0, .ref h), (1, .int (nI k)), (2, .int g0)]) hx hb dX2_window_5 rfl hl (by decide) rfl (fun ls hl => ?_)
  refine lv_iconst (v := 0) hx hb dX2_window_6 (by decide) ?_
  refine lv_istore (lv' := [(4, .int 0), (3, .ref (ka k)), (0, .ref h), (1, .int (nI k)), (2, .int g0)]) hx hb dX2_window_7 hl (by decide) rfl (fun ls hl => ?_)
  refine W_loopR (nL := 6) (fun i : Nat => [(4, .int (nI i)), (0, .ref h), (1, .int (nI k)), (2, .int g0), (3, .ref (ka k))]) (fun i => i ≤ 31 ∧ (g0 = 0 → wd F k 0 i = -1) ∧ (¬ g0 = 0 → wd F k g0 (31 - i) = wd F k g0 31)) (fun i => 31 - i) ?_ 0 (⟨Nat.zero_le _, fun _ => rfl, fun _ => rfl⟩) (lv_sub hl [0, 2, 3, 4, 1] rfl)
  intro i ls hI9 hl ih
  have hl : lv_has ls 6 [(4, .int (nI i)), (0, .ref h), (1, .int (nI k)), (2, .int g0), (3, .ref (ka k))] := hl
  obtain ⟨hi31, hg0, hg1⟩ := hI9
  refine lv_iload hx hb dX2_window_9 (lv_at hl 0 rfl) ?_
  refine lv_bipush (v := 30) hx hb dX2_window_11 (by decide) ?_
  refine lv_icmp_gt (tgt := 50) hx hb dX2_window_13 (by decide) (fun c_13 => ?_) (fun c_13 => ?_)
  · skip
    have he : i = 31 := by have q := (nI_ltI (a := 30) (b := i) (by omega) (by omega)).mp c_13; omega
    subst he
    refine lv_iconst (v := (-1)) hx hb dX2_window_50 (by decide) ?_
    have hw9 : wd F k g0 31 = (-1) := (Decidable.em (g0 = 0)).elim (fun q => by subst q; exact hg0 rfl) (fun q => (hg1 q).symm)
    have hS9 : S_window n F (nI k) g0 = (0, (-1)) := by rw [S_window, hixk, ← hw9]
    refine vx_ret ?_
    refine W.widen (k := 1) (n := 6) (Nat.le_of_ble_eq_true rfl) (Nat.le_of_ble_eq_true rfl) ?_
    exact W.iret (v := (-1)) hx hb hr (fun t ht hW => cQ_mk ka kb (by rw [hS9]) (by rw [hS9]) (by rw [ht]; exact hP) (hD) (hS.F ht)) hS.2.2 dX2_window_51
  · skip
    have hlt9 : i < 31 := Nat.not_le.mp (fun q => c_13 ((nI_ltI (a := 30) (b := i) (by omega) (by omega)).mpr (by omega)))
    refine lv_iload_n hx hb dX2_window_16 rfl (lv_at hl 3 rfl) ?_
    refine W_join (pc := 30) (rest := []) (fun v => v = nI (if g0 = 0 then i else 30 - i)) (fun v hv => ?_) (fun K => ?_)
    · subst hv
      refine lv_istore (lv' := [(5, .int (nI (if g0 = 0 then i else 30 - i))), (4, .int (nI i)), (0, .ref h), (1, .int (nI k)), (2, .int g0), (3, .ref (ka k))]) hx hb dX2_window_30 hl (by decide) rfl (fun ls hl => ?_)
      refine lv_aload_n hx hb dX2_window_32 rfl (lv_at hl 5 rfl) ?_
      refine lv_iload hx hb dX2_window_33 (lv_at hl 0 rfl) ?_
      have hq1 := one_P hP (cG_k hkn)
      refine vp_callSi (va_Run.run (va_runV (As := [.int (nI (if g0 = 0 then i else 30 - i))]) (rest := []) ⟨hx, hb, hml, hown, hts⟩ (c_X1_holdsIn l9 dC dI (ka k) k F (nI (if g0 = 0 then i else 30 - i)) (hI.kd k hkn)) (cwV 1 hts gX2_window_X1_holdsIn rfl rfl rfl (by decide +kernel) ⟨Nat.le_of_ble_eq_true rfl, Nat.le_of_ble_eq_true rfl⟩) ⟨PRo.blind, va_recv (hK.sub (tys' := []) [] rfl) hq1 (ci := 1) (q0 := 0) rfl rfl, PRo.pre hq1 (hK.sub (tys' := []) [] rfl) hE⟩ rfl rfl hl.1 rfl (lv_room (Nat.le_of_ble_eq_true rfl)) dX2_window_35 ⟨Nat.le_of_ble_eq_true rfl, Nat.le_of_ble_eq_true rfl⟩)) (fun r hr => ?_)
      subst hr
      refine lv_if_eq (tgt := 44) hx hb dX2_window_38 (by decide) (fun c_38 => ?_) (fun c_38 => ?_)
      · skip
        have c_38 := bi_z.mp c_38
        refine lv_iinc (v := nI (i + 1)) (lv' := [(4, .int (nI (i + 1))), (5, .int (nI (if g0 = 0 then i else 30 - i))), (0, .ref h), (1, .int (nI k)), (2, .int g0), (3, .ref (ka k))]) hx hb dX2_window_44 hl (k := 1) rfl (nI_1 _) (by decide) rfl (fun ls hl => ?_)
        refine lv_goto (tgt := 9) hx hb dX2_window_47 (by decide) ?_
        have hn1 : g0 = 0 → wd F k 0 (i + 1) = -1 := fun q => by rw [wd_skip (by rw [← show (if g0 = 0 then i else 30 - i) = i from if_pos q]; exact c_38), hg0 q]
        have hn2 : ¬ g0 = 0 → wd F k g0 (31 - (i + 1)) = wd F k g0 31 := fun q => by rw [← hg1 q, show 31 - i = (31 - (i + 1)) + 1 by omega, wd_skip (by rw [show 31 - (i + 1) = 30 - i by omega, ← show (if g0 = 0 then i else 30 - i) = 30 - i from if_neg q]; exact c_38)]
        exact ih (i + 1) ls (by omega) (⟨by omega, hn1, hn2⟩) (lv_sub hl [0, 2, 3, 4, 5] rfl)
      · skip
        have c_38 := bi_nz.mp c_38
        refine lv_iload hx hb dX2_window_41 (lv_at hl 0 rfl) ?_
        have hw9 : wd F k g0 31 = nI (if g0 = 0 then i else 30 - i) := (Decidable.em (g0 = 0)).elim (fun q => by subst q; rw [if_pos rfl] at c_38 ⊢; exact wd_up c_38 hlt9 (hg0 rfl) hlt9) (fun q => by rw [if_neg q] at c_38 ⊢; rw [← hg1 q, show 31 - i = (30 - i) + 1 by omega]; exact wd_down q c_38)
        have hS9 : S_window n F (nI k) g0 = (0, nI (if g0 = 0 then i else 30 - i)) := by rw [S_window, hixk, ← hw9]
        refine vx_ret ?_
        refine W.widen (k := 1) (n := 6) (Nat.le_of_ble_eq_true rfl) (Nat.le_of_ble_eq_true rfl) ?_
        exact W.iret (v := nI (if g0 = 0 then i else 30 - i)) hx hb hr (fun t ht hW => cQ_mk ka kb (by rw [hS9]) (by rw [hS9]) (by rw [ht]; exact hP) (hD) (hS.F ht)) hS.2.2 dX2_window_43
    · skip
      refine lv_if_eq (tgt := 28) hx hb dX2_window_17 (by decide) (fun c_17 => ?_) (fun c_17 => ?_)
      · skip
        refine lv_iload hx hb dX2_window_28 (lv_at hl 0 rfl) ?_
        exact K _ (by rw [if_pos c_17])
      · skip
        refine lv_bipush (v := 30) hx hb dX2_window_20 (by decide) ?_
        refine lv_iload hx hb dX2_window_22 (lv_at hl 0 rfl) ?_
        refine lv_isub hx hb dX2_window_24 ?_
        refine lv_goto (tgt := 30) hx hb dX2_window_25 (by decide) ?_
        exact K _ (by rw [if_neg c_17]; exact nI_sub (a := 30) (b := i) (by omega) (by omega))

set_option maxHeartbeats 4000000 in
set_option maxRecDepth 100000 in
theorem c_X2_rain (l9 : Launch) (dC : Nat → ClassId) (dI : Nat → Nat → Nat) (sz : Nat) {tK tB : ClassId} (h ak ab af : Nat) (ka kb : Nat → Nat) (n p : Nat) (F : Rows) (b9 : Int32) (hb9 : b9 = 0 ∨ b9 = 1) (hI : Inv n p F) : Met l9 yX2_rain wsX2_rain ({ frames := 0, cells := 0, slots := 0, locals := 0 }) (va_Pc [.ref h, .int b9] (PWr dC dI [(tK, .object "Windlane$Kite"), (tB, .object "Windlane$Borrower")] (cW tK tB h ak ab af ka kb n p F) sz)) (va_Qi (fun r9 (_ : Unit) => r9 = F 9 2) (fun _ t => va_P (dC, dI) vwCl (cW tK tB h ak ab af ka kb n p (up F 9 2 b9)) t.heap) (va_A (cW tK tB h ak ab af ka kb n p F) sz)) 0 0 (va_A (cW tK tB h ak ab af ka kb n p F) sz) := by
  refine Met.ofW (cc := cX2_rain) (maxL := 3) (ret := (some .boolean)) (by decide) rfl ?_
  intro p9 e9 s m args below meth c s₁ B hml hv
  obtain ⟨rfl, hsz, hP, hK, hD0, hE, hH⟩ := hv
  have hx := B.exec
  have hb := B.bytes
  have hr := B.returns
  have hts := atoms_spec (ws := wsX2_rain) B.pre
  have hown : s.vm.findClass RX2 = some m.cls := findClass_of_methodNamed B.named
  have hlocks := B.notSynchronized
  have hi2 : ∀ w ∈ u_ws RX2 TX2 9, w ∈ wsX2_rain := by decide +kernel
  have lk158 := hts (.fieldLink RX2 158 "Windlane" "isRaining" "Z") (by decide +kernel)
  subst hsz
  have hD := hD0.self (sz := s.heap.size)
  generalize hAe : va_A (cW tK tB h ak ab af ka kb n p F) s.heap.size = A at hD hH ⊢
  have hA : ∀ q : Nat, s.heap.size ≤ q → A q := fun q h => by rw [← hAe]; exact Or.inr h
  have hS : va_S A s.heap s.heap [] := va_S.rf
  have hP : va_P (dC, dI) vwCl (cW tK tB h ak ab af ka kb n p F) s.heap := hP
  have hl := lv_entry ([.ref h, .int b9]) (n := 3) (Nat.le_of_ble_eq_true rfl)
  rw [lg_entry_eq]
  generalize (lg_sl ([.ref h, .int b9]) ++ List.replicate (3 - (lg_sl ([.ref h, .int b9])).length) Slot.unset).toArray = ls at hl ⊢
  have hl : lv_has ls 3 [(0, .ref h), (1, .int b9)] := hl
  refine lv_aload_n hx hb dX2_rain_0 rfl (lv_at hl 0 rfl) ?_
  refine va_get (D := (dC, dI)) (ci := 2) (v := .int (F 9 2)) (C := RX2) (T := TX2) (N := 9) hx hb hts hi2 hown hK hP 0 rfl rfl 7 (by decide) lk158 (fun _ h9 => h9) rfl dX2_rain_1 ?_
  refine lv_istore_n (lv' := [(2, .int (F 9 2)), (0, .ref h), (1, .int b9)]) hx hb dX2_rain_4 rfl hl (by decide) rfl (fun ls hl => ?_)
  refine lv_aload_n hx hb dX2_rain_5 rfl (lv_at hl 1 rfl) ?_
  refine lv_iload_n hx hb dX2_rain_6 rfl (lv_at hl 2 rfl) ?_
  refine va_put (D := (dC, dI)) (ci := 2) (v := .int b9) (ty := .boolean) (C := RX2) (T := TX2) (N := 9) hx hb hts hi2 tyX2 tyX2_ok nmX2 hown hK hP hD hS 0 rfl rfl 7 (by decide) lk158 (fun _ h9 => h9) rfl (by decide +kernel) (nar_01 hb9) (fit_01 hb9) (Nat.le_of_ble_eq_true rfl) dX2_rain_7 (fun H locs hP hD hS => ?_)
  have hP : va_P (dC, dI) vwCl (cG tK tB h ak ab af ka kb n p (up F 9 2 b9) (flF F n) (hbF F n)) H := P_eq (rfl) hP
  have hD : va_D A (cG tK tB h ak ab af ka kb n p (up F 9 2 b9) (flF F n) (hbF F n)) := D_eq (rfl) hD
  refine lv_iload_n hx hb dX2_rain_10 rfl (lv_at hl 0 rfl) ?_
  have hP : va_P (dC, dI) vwCl (cW tK tB h ak ab af ka kb n p (up F 9 2 b9)) H := hP
  have hD : va_D A (cW tK tB h ak ab af ka kb n p (up F 9 2 b9)) := hD
  exact W.zret (v := F 9 2) hx hb hr (nar_01 hI.2.2.2.2.1.2) (fun t ht hW => ⟨⟨F 9 2, (), rfl, rfl, by show va_P _ _ _ t.heap; rw [ht]; exact hP⟩, hS.F ht⟩) hS.2.2 dX2_rain_11

set_option maxHeartbeats 4000000 in
set_option maxRecDepth 100000 in
theorem c_X2_called (l9 : Launch) (dC : Nat → ClassId) (dI : Nat → Nat → Nat) {tK tB : ClassId} (h ak ab af : Nat) (ka kb : Nat → Nat) (n p : Nat) (F : Rows)  : Met l9 yX2_called wsX2_called ({ frames := 0, cells := 0, slots := 0, locals := 0 }) (va_Pc [.ref h] (PRo dC dI [(tK, .object "Windlane$Kite"), (tB, .object "Windlane$Borrower")] (cW tK tB h ak ab af ka kb n p F))) (vp_Si (fun r9 => r9 = F 9 3)) 0 0 (fun _ => False) := by
  refine Met.ofW (cc := cX2_called) (maxL := 1) (ret := (some .int)) (by decide) rfl ?_
  intro p9 e9 s m args below meth c s₁ B hml hv
  obtain ⟨rfl, hP, hK, hE⟩ := hv
  have hx := B.exec
  have hb := B.bytes
  have hr := B.returns
  have hts := atoms_spec (ws := wsX2_called) B.pre
  have hown : s.vm.findClass RX2 = some m.cls := findClass_of_methodNamed B.named
  have hlocks := B.notSynchronized
  have hP : va_P (dC, dI) vwCl (cW tK tB h ak ab af ka kb n p F) s.heap := hP
  have hi2 : ∀ w ∈ u_ws RX2 TX2 9, w ∈ wsX2_called := by decide +kernel
  have lk149 := hts (.fieldLink RX2 149 "Windlane" "calledCount" "I") (by decide +kernel)
  have hl := lv_entry ([.ref h]) (n := 1) (Nat.le_of_ble_eq_true rfl)
  rw [lg_entry_eq]
  generalize (lg_sl ([.ref h]) ++ List.replicate (1 - (lg_sl ([.ref h])).length) Slot.unset).toArray = ls at hl ⊢
  have hl : lv_has ls 1 [(0, .ref h)] := hl
  refine lv_aload_n hx hb dX2_called_0 rfl (lv_at hl 0 rfl) ?_
  refine va_get (D := (dC, dI)) (ci := 2) (v := .int (F 9 3)) (C := RX2) (T := TX2) (N := 9) hx hb hts hi2 hown hK hP 0 rfl rfl 8 (by decide) lk149 (fun _ h9 => h9) rfl dX2_called_1 ?_
  exact W.iret (v := F 9 3) hx hb hr (fun t ht _ => ⟨_, rfl, rfl, ht⟩) (fun q hq => absurd hq List.not_mem_nil) dX2_called_4
end
section
/-! ===== new things ===== -/
theorem va_up_s {α : Type} (f : Nat → α) (k : Nat) (v : α) : va_up f k v k = v := va_up_self f k v
theorem range_snoc {α : Type} (f g : Nat → α) (n : Nat) (h : ∀ j, j < n → f j = g j) : (List.range n).map f ++ [g n] = (List.range (n + 1)).map g := by
  rw [List.range_succ, List.map_append, List.map_singleton]
  congr 1
  exact List.map_congr_left (fun j hj => h j (List.mem_range.mp hj))
abbrev nwF (n : Nat) (F : Rows) (kd ar wt : Int32) : Rows := up (up (up (up (up F 0 n kd) 1 n ar) 2 n wt) 5 n (-1)) 6 n (-1)
theorem map_ka {ka : Nat → Nat} {n q : Nat} {o : Option Nat} (h : ∀ k, o = some k → k < n) : o.map (va_up ka n q) = o.map ka := by
  cases o with
  | none => rfl
  | some k => 
    have := h k rfl
    show some (va_up ka n q k) = some (ka k)
    rw [va_up_ne _ _ (by omega)]
theorem flF_new {F : Rows} {n l : Nat} {kd ar wt : Int32} : flF (nwF n F kd ar wt) (n + 1) l = flF F n l := by
  unfold flF
  by_cases hl : l < 10
  · rw [if_pos hl, if_pos hl]
    exact lk_new (nI_m1 (by omega))
  · rw [if_neg hl, if_neg hl]
theorem hbF_new {F : Rows} {n j : Nat} {kd ar wt : Int32} : hbF (nwF n F kd ar wt) (n + 1) j = hbF F n j := by
  unfold hbF
  by_cases hl : j < 8
  · rw [if_pos hl, if_pos hl]
    exact lk_new (nI_m1 (by omega))
  · rw [if_neg hl, if_neg hl]
theorem flF_lt {F : Rows} {n l k : Nat} (h : flF F n l = some k) : k < n := by
  unfold flF at h
  split at h
  · exact (lk_some h).1
  · cases h
theorem hbF_lt {F : Rows} {n l k : Nat} (h : hbF F n l = some k) : k < n := by
  unfold hbF at h
  split at h
  · exact (lk_some h).1
  · cases h
theorem kF_up {ka : Nat → Nat} {n q : Nat} : va_up (kF ka n) n (some q) = kF (va_up ka n q) (n + 1) := by
  funext j
  show va_up (kF ka n) n (some q) j = if j < n + 1 then some (va_up ka n q j) else none
  by_cases e : j = n
  · subst e; rw [va_up_self, va_up_self, if_pos (by omega)]
  · rw [va_up_ne _ _ e, va_up_ne _ _ e]
    show (if j < n then some (ka j) else none) = _
    by_cases h : j < n
    · rw [if_pos h, if_pos (by omega)]
    · rw [if_neg h, if_neg (by omega)]
theorem cW_newk {tK tB : ClassId} {h ak ab af : Nat} {ka kb : Nat → Nat} {n p q : Nat} {F : Rows} {kd ar wt : Int32} (h3 : F 3 n = 0) (h4 : F 4 n = 0) (h7 : F 7 n = 0) :
    ((h, .inr (2, [.ref ak, .int (nI (n + 1)), .ref ab, .int (nI p), .ref af, .int (F 9 0), .int (F 9 1), .int (F 9 2), .int (F 9 3)])) :: (ak, .inl (tK, qA 8 (va_up (kF ka n) n (some q)))) :: (ab, .inl (tB, qA 8 (kF kb p))) :: (af, .inl (tK, qA 10 (lF ka (flF F n)))) :: ((kL ka F n ++ [(q, .inr (1, [.int (nI n), .int kd, .int ar, .int wt, .int 0, .int 0, .int (-1), .int (-1), .int 0]))]) ++ bL ka kb F (hbF F n) p) : va_W) = cW tK tB h ak ab af (va_up ka n q) kb (n + 1) p (nwF n F kd ar wt) := by
  have e1 : lF ka (flF F n) = lF (va_up ka n q) (flF (nwF n F kd ar wt) (n + 1)) := by
    funext l
    show (flF F n l).map ka = (flF (nwF n F kd ar wt) (n + 1) l).map (va_up ka n q)
    rw [flF_new, map_ka (fun k hk => flF_lt hk)]
  have e2 : bL ka kb F (hbF F n) p = bL (va_up ka n q) kb (nwF n F kd ar wt) (hbF (nwF n F kd ar wt) (n + 1)) p := by
    unfold bL
    refine List.map_congr_left (fun j _ => ?_)
    show (kb j, bE ka F (hbF F n) j) = (kb j, bE (va_up ka n q) (nwF n F kd ar wt) (hbF (nwF n F kd ar wt) (n + 1)) j)
    unfold bE
    rw [hbF_new, map_ka (fun k hk => hbF_lt hk)]
    rfl
  have e3 : kL ka F n ++ [(q, .inr (1, [.int (nI n), .int kd, .int ar, .int wt, .int 0, .int 0, .int (-1), .int (-1), .int 0]))] = kL (va_up ka n q) (nwF n F kd ar wt) (n + 1) := by
    have e4 : ((q, .inr (1, [.int (nI n), .int kd, .int ar, .int wt, .int 0, .int 0, .int (-1), .int (-1), .int 0])) : Nat × va_E) = (fun k => (va_up ka n q k, kE (nwF n F kd ar wt) k)) n := by
      show _ = (va_up ka n q n, kE (nwF n F kd ar wt) n)
      rw [va_up_self]
      unfold kE
      have a0 : nwF n F kd ar wt 0 n = kd := upd_s _ _ _
      have a1 : nwF n F kd ar wt 1 n = ar := upd_s _ _ _
      have a2 : nwF n F kd ar wt 2 n = wt := upd_s _ _ _
      have a3 : nwF n F kd ar wt 3 n = 0 := h3
      have a4 : nwF n F kd ar wt 4 n = 0 := h4
      have a5 : nwF n F kd ar wt 5 n = -1 := upd_s _ _ _
      have a6 : nwF n F kd ar wt 6 n = -1 := upd_s _ _ _
      have a7 : nwF n F kd ar wt 7 n = 0 := h7
      rw [a0, a1, a2, a3, a4, a5, a6, a7]
    rw [e4]
    refine range_snoc (fun k => (ka k, kE F k)) (fun k => (va_up ka n q k, kE (nwF n F kd ar wt) k)) n (fun j hj => ?_)
    have hne : j ≠ n := by omega
    show (ka j, kE F j) = (va_up ka n q j, kE (nwF n F kd ar wt) j)
    rw [va_up_ne _ _ hne]
    unfold kE
    have a0 : nwF n F kd ar wt 0 j = F 0 j := upd_n _ hne
    have a1 : nwF n F kd ar wt 1 j = F 1 j := upd_n _ hne
    have a2 : nwF n F kd ar wt 2 j = F 2 j := upd_n _ hne
    have a5 : nwF n F kd ar wt 5 j = F 5 j := upd_n _ hne
    have a6 : nwF n F kd ar wt 6 j = F 6 j := upd_n _ hne
    have a3 : nwF n F kd ar wt 3 j = F 3 j := rfl
    have a4 : nwF n F kd ar wt 4 j = F 4 j := rfl
    have a7 : nwF n F kd ar wt 7 j = F 7 j := rfl
    rw [a0, a1, a2, a3, a4, a5, a6, a7]
  rw [e1, e2, e3, kF_up]
  rfl
theorem cW_newb {tK tB : ClassId} {h ak ab af : Nat} {ka kb : Nat → Nat} {n p q : Nat} {F : Rows} {sk : Int32} (hp : p < 8) (h5 : ∀ k, k < n → ¬ F 5 k = nI p) :
    ((h, .inr (2, [.ref ak, .int (nI n), .ref ab, .int (nI (p + 1)), .ref af, .int (F 9 0), .int (F 9 1), .int (F 9 2), .int (F 9 3)])) :: (ak, .inl (tK, qA 8 (kF ka n))) :: (ab, .inl (tB, qA 8 (va_up (kF kb p) p (some q)))) :: (af, .inl (tK, qA 10 (lF ka (flF F n)))) :: ((kL ka F n ++ bL ka kb F (hbF F n) p) ++ [(q, .inr (0, [.int sk, .null]))]) : va_W) = cW tK tB h ak ab af ka (va_up kb p q) n (p + 1) (up F 8 p sk) := by
  have e3 : bL ka kb F (hbF F n) p ++ [(q, .inr (0, [.int sk, .null]))] = bL ka (va_up kb p q) (up F 8 p sk) (hbF (up F 8 p sk) n) (p + 1) := by
    have e4 : ((q, .inr (0, [.int sk, .null])) : Nat × va_E) = (fun j => (va_up kb p q j, bE ka (up F 8 p sk) (hbF (up F 8 p sk) n) j)) p := by
      show _ = (va_up kb p q p, bE ka (up F 8 p sk) (hbF (up F 8 p sk) n) p)
      rw [va_up_self]
      unfold bE
      rw [up_ss, hbF_up (by decide), hbF_at hp, lk_none.mpr h5]
      rfl
    rw [e4]
    refine range_snoc (fun j => (kb j, bE ka F (hbF F n) j)) (fun j => (va_up kb p q j, bE ka (up F 8 p sk) (hbF (up F 8 p sk) n) j)) p (fun j hj => ?_)
    have hne : j ≠ p := by omega
    show (kb j, bE ka F (hbF F n) j) = (va_up kb p q j, bE ka (up F 8 p sk) (hbF (up F 8 p sk) n) j)
    rw [va_up_ne _ _ hne]
    unfold bE
    rw [up_sn _ hne, hbF_up (by decide)]
  rw [List.append_assoc, e3, kF_up]
  rfl
theorem snoc_at {α : Type} (ws : List α) (x : α) : (ws ++ [x])[ws.length]? = some x := by simp
theorem snoc_set {α : Type} (ws : List α) (x y : α) : (ws ++ [x]).set ws.length y = ws ++ [y] := by
  rw [List.set_append_right _ _ (Nat.le_refl _), Nat.sub_self]; rfl
theorem snoc_P {D : va_G} {cl : List vw_C} {ws : va_W} {x : Nat × va_E} {H : Heap} (h : va_P D cl (ws ++ [x]) H) : va_P D cl [x] H := P_right h
theorem snoc_D {A : Nat → Prop} {ws : va_W} {x : Nat × va_E} (h : va_D A (ws ++ [x])) : va_D A [x] := D_right h

set_option maxHeartbeats 4000000 in
set_option maxRecDepth 100000 in
theorem c_X2_kite (l9 : Launch) (hlt : l9.stackTraces = false) (dC : Nat → ClassId) (dI : Nat → Nat → Nat) (sz : Nat) {tK tB : ClassId} (h ak ab af : Nat) (ka kb : Nat → Nat) (n p : Nat) (F : Rows) (kd ar wt : Int32) (hI : Inv n p F) : vx_Met l9 yX2_kite wsX2_kite ({ frames := 6, cells := 1, slots := 9, locals := 82 }) (va_Pc [.ref h, .int kd, .int ar, .int wt] (PWr dC dI [(tK, .object "Windlane$Kite"), (tB, .object "Windlane$Borrower")] (cW tK tB h ak ab af ka kb n p F) sz)) (cQ dC dI tK tB h ak ab af (va_A (cW tK tB h ak ab af ka kb n p F) sz) ((S_kite n F kd ar wt).2.2.1) p ((S_kite n F kd ar wt).2.2.2) ((S_kite n F kd ar wt).1) ((S_kite n F kd ar wt).2.1)) (vx_X (fun _ : Unit => True) (fun E _ _ => (E = "java/lang/IllegalArgumentException" ∧ (S_kite n F kd ar wt).1 = 1) ∨ (E = "java/lang/IllegalStateException" ∧ (S_kite n F kd ar wt).1 = 2)) (fun _ => False)) 1 9 (va_A (cW tK tB h ak ab af ka kb n p F) sz) := by
  refine vx_ofW (cc := cX2_kite) (maxL := 5) (ret := (some .int)) (by decide) rfl ?_
  intro p9 e9 s m args below meth c s₁ B hml hout hv
  obtain ⟨rfl, hsz, hP, hK, hD0, hE, hH⟩ := hv
  have hx := B.exec
  have hb := B.bytes
  have hr := B.returns
  have hts := atoms_spec (ws := wsX2_kite) B.pre
  have hown : s.vm.findClass RX2 = some m.cls := findClass_of_methodNamed B.named
  have hlocks := B.notSynchronized
  have hi1 : ∀ w ∈ u_ws RX1 TX1 9, w ∈ wsX2_kite := by decide +kernel
  have hi2 : ∀ w ∈ u_ws RX2 TX2 9, w ∈ wsX2_kite := by decide +kernel
  have lk11 := hts (.fieldLink RX2 11 "Windlane" "kites" "[LWindlane$Kite;") (by decide +kernel)
  have lk35 := hts (.fieldLink RX2 35 "Windlane" "kiteCount" "I") (by decide +kernel)
  subst hsz
  have hD := hD0.self (sz := s.heap.size)
  generalize hAe : va_A (cW tK tB h ak ab af ka kb n p F) s.heap.size = A at hD hH ⊢
  have hA : ∀ q : Nat, s.heap.size ≤ q → A q := fun q h => by rw [← hAe]; exact Or.inr h
  have hS : va_S A s.heap s.heap [] := va_S.rf
  have hP : va_P (dC, dI) vwCl (cW tK tB h ak ab af ka kb n p F) s.heap := hP
  have hn8 : n ≤ 8 := hI.1.1
  have hp8 : p ≤ 8 := hI.1.2
  have hl := lv_entry ([.ref h, .int kd, .int ar, .int wt]) (n := 5) (Nat.le_of_ble_eq_true rfl)
  rw [lg_entry_eq]
  generalize (lg_sl ([.ref h, .int kd, .int ar, .int wt]) ++ List.replicate (5 - (lg_sl ([.ref h, .int kd, .int ar, .int wt])).length) Slot.unset).toArray = ls at hl ⊢
  have hl : lv_has ls 5 [(0, .ref h), (1, .int kd), (2, .int ar), (3, .int wt)] := hl
  refine lv_iload_n hx hb dX2_kite_0 rfl (lv_at hl 1 rfl) ?_
  refine lv_iconst (v := 0) hx hb dX2_kite_1 (by decide) ?_
  refine lv_iconst (v := 2) hx hb dX2_kite_2 (by decide) ?_
  refine vp_callSi (va_Run.run (va_runS (As := [.int kd, .int 0, .int 2]) (rest := []) ⟨hx, hb, hml, hown, hts⟩ (c_X2_isWithin l9 kd 0 2) (va_cwS 3 hts gX2_kite_X2_isWithin rfl rfl rfl (by decide +kernel) ⟨Nat.le_of_ble_eq_true rfl, Nat.le_of_ble_eq_true rfl⟩) ⟨fun a U g mk q => q, fun U hU hW => ⟨rfl, trivial⟩⟩ rfl rfl hl.1 rfl (lv_room (Nat.le_of_ble_eq_true rfl)) dX2_kite_3 ⟨Nat.le_of_ble_eq_true rfl, Nat.le_of_ble_eq_true rfl⟩)) (fun r hr => ?_)
  subst hr
  refine lv_if_eq (tgt := 29) hx hb dX2_kite_6 (by decide) (fun c_6 => ?_) (fun c_6 => ?_)
  · skip
    have c_6 := bi_z.mp c_6
    have hS9 : S_kite n F kd ar wt = (1, 0, n, F) := by rw [S_kite]; exact if_neg (fun q => c_6 q.1)
    obtain ⟨sa, hsa⟩ := hE.2.2.2 (30, "kind, area or weight is out of range") (by decide +kernel)
    exact vx_throwS (own := RX2) (cls := "java/lang/IllegalArgumentException") (text := "kind, area or weight is out of range") (names := ["java/lang/RuntimeException", "java/lang/Exception"]) (ik := 28) (is := 30) (ic := 32) (sa := sa) (A := A) hx hb hlt hown (by decide +kernel) (by decide +kernel) (hts (.classLink RX2 28 "java/lang/IllegalArgumentException") (by decide +kernel)) (hts (.initialized "java/lang/IllegalArgumentException") (by decide +kernel)) hsa (vx_hat (B := [.castable "java/lang/IllegalArgumentException" "java/lang/IllegalArgumentException", .declares dR, .declares dE, .declares dT]) (fun w hw => hts w (List.mem_cons_of_mem _ (List.mem_append_left _ (List.mem_append_right _ hw)))) (by decide +kernel) (vx_c (yc.use hE.2.1.1) (vx_c (va_Nw.use rfl hE.1.2.1) (vx_c (va_Nw.use rfl hE.1.2.2.1) (vx_c (va_Nw.use rfl hE.1.2.2.2) vx_n))))) (by decide +kernel) hH.1 hH.2 hS (hl.1.trans hml.symm) dX2_kite_29 dX2_kite_32 dX2_kite_33 dX2_kite_35 dX2_kite_38 (fun x hx => (hout x hx).elim) (Nat.le_of_ble_eq_true rfl) (Nat.le_of_ble_eq_true rfl) (Nat.le_of_ble_eq_true rfl) (Nat.le_of_ble_eq_true rfl) hlocks (fun t _ h1 h2 => ⟨(), trivial, Or.inl (⟨rfl, (by rw [hS9])⟩), h1, fun q hq _ => h2 q hq⟩) (fun z hz => absurd hz List.not_mem_nil) (Nat.le_of_ble_eq_true rfl) (Nat.le_of_ble_eq_true rfl)
  · skip
    have c_6 := bi_nz.mp c_6
    refine lv_iload_n hx hb dX2_kite_9 rfl (lv_at hl 2 rfl) ?_
    refine lv_iconst (v := 1) hx hb dX2_kite_10 (by decide) ?_
    refine lv_bipush (v := 20) hx hb dX2_kite_11 (by decide) ?_
    refine vp_callSi (va_Run.run (va_runS (As := [.int ar, .int 1, .int 20]) (rest := []) ⟨hx, hb, hml, hown, hts⟩ (c_X2_isWithin l9 ar 1 20) (va_cwS 3 hts gX2_kite_X2_isWithin rfl rfl rfl (by decide +kernel) ⟨Nat.le_of_ble_eq_true rfl, Nat.le_of_ble_eq_true rfl⟩) ⟨fun a U g mk q => q, fun U hU hW => ⟨rfl, trivial⟩⟩ rfl rfl hl.1 rfl (lv_room (Nat.le_of_ble_eq_true rfl)) dX2_kite_13 ⟨Nat.le_of_ble_eq_true rfl, Nat.le_of_ble_eq_true rfl⟩)) (fun r hr => ?_)
    subst hr
    refine lv_if_eq (tgt := 29) hx hb dX2_kite_16 (by decide) (fun c_16 => ?_) (fun c_16 => ?_)
    · skip
      have c_16 := bi_z.mp c_16
      have hS9 : S_kite n F kd ar wt = (1, 0, n, F) := by rw [S_kite]; exact if_neg (fun q => c_16 q.2.1)
      obtain ⟨sa, hsa⟩ := hE.2.2.2 (30, "kind, area or weight is out of range") (by decide +kernel)
      exact vx_throwS (own := RX2) (cls := "java/lang/IllegalArgumentException") (text := "kind, area or weight is out of range") (names := ["java/lang/RuntimeException", "java/lang/Exception"]) (ik := 28) (is := 30) (ic := 32) (sa := sa) (A := A) hx hb hlt hown (by decide +kernel) (by decide +kernel) (hts (.classLink RX2 28 "java/lang/IllegalArgumentException") (by decide +kernel)) (hts (.initialized "java/lang/IllegalArgumentException") (by decide +kernel)) hsa (vx_hat (B := [.castable "java/lang/IllegalArgumentException" "java/lang/IllegalArgumentException", .declares dR, .declares dE, .declares dT]) (fun w hw => hts w (List.mem_cons_of_mem _ (List.mem_append_left _ (List.mem_append_right _ hw)))) (by decide +kernel) (vx_c (yc.use hE.2.1.1) (vx_c (va_Nw.use rfl hE.1.2.1) (vx_c (va_Nw.use rfl hE.1.2.2.1) (vx_c (va_Nw.use rfl hE.1.2.2.2) vx_n))))) (by decide +kernel) hH.1 hH.2 hS (hl.1.trans hml.symm) dX2_kite_29 dX2_kite_32 dX2_kite_33 dX2_kite_35 dX2_kite_38 (fun x hx => (hout x hx).elim) (Nat.le_of_ble_eq_true rfl) (Nat.le_of_ble_eq_true rfl) (Nat.le_of_ble_eq_true rfl) (Nat.le_of_ble_eq_true rfl) hlocks (fun t _ h1 h2 => ⟨(), trivial, Or.inl (⟨rfl, (by rw [hS9])⟩), h1, fun q hq _ => h2 q hq⟩) (fun z hz => absurd hz List.not_mem_nil) (Nat.le_of_ble_eq_true rfl) (Nat.le_of_ble_eq_true rfl)
    · skip
      have c_16 := bi_nz.mp c_16
      refine lv_iload_n hx hb dX2_kite_19 rfl (lv_at hl 3 rfl) ?_
      refine lv_iconst (v := 1) hx hb dX2_kite_20 (by decide) ?_
      refine lv_bipush (v := 20) hx hb dX2_kite_21 (by decide) ?_
      refine vp_callSi (va_Run.run (va_runS (As := [.int wt, .int 1, .int 20]) (rest := []) ⟨hx, hb, hml, hown, hts⟩ (c_X2_isWithin l9 wt 1 20) (va_cwS 3 hts gX2_kite_X2_isWithin rfl rfl rfl (by decide +kernel) ⟨Nat.le_of_ble_eq_true rfl, Nat.le_of_ble_eq_true rfl⟩) ⟨fun a U g mk q => q, fun U hU hW => ⟨rfl, trivial⟩⟩ rfl rfl hl.1 rfl (lv_room (Nat.le_of_ble_eq_true rfl)) dX2_kite_23 ⟨Nat.le_of_ble_eq_true rfl, Nat.le_of_ble_eq_true rfl⟩)) (fun r hr => ?_)
      subst hr
      refine lv_if_ne (tgt := 39) hx hb dX2_kite_26 (by decide) (fun c_26 => ?_) (fun c_26 => ?_)
      · skip
        have c_26 := bi_nz.mp c_26
        refine lv_aload_n hx hb dX2_kite_39 rfl (lv_at hl 0 rfl) ?_
        refine va_get (D := (dC, dI)) (ci := 2) (v := .int (nI n)) (C := RX2) (T := TX2) (N := 9) hx hb hts hi2 hown hK hP 0 rfl rfl 1 (by decide) lk35 (fun _ h9 => h9) rfl dX2_kite_40 ?_
        refine lv_bipush (v := 8) hx hb dX2_kite_43 (by decide) ?_
        refine lv_icmp_lt (tgt := 58) hx hb dX2_kite_45 (by decide) (fun c_45 => ?_) (fun c_45 => ?_)
        · skip
          refine lv_aload_n hx hb dX2_kite_58 rfl (lv_at hl 0 rfl) ?_
          refine va_get (D := (dC, dI)) (ci := 2) (v := .int (nI n)) (C := RX2) (T := TX2) (N := 9) hx hb hts hi2 hown hK hP 0 rfl rfl 1 (by decide) lk35 (fun _ h9 => h9) rfl dX2_kite_59 ?_
          refine lv_istore (lv' := [(4, .int (nI n)), (0, .ref h), (1, .int kd), (2, .int ar), (3, .int wt)]) hx hb dX2_kite_62 hl (by decide) rfl (fun ls hl => ?_)
          refine lv_aload_n hx hb dX2_kite_64 rfl (lv_at hl 1 rfl) ?_
          refine va_get (D := (dC, dI)) (ci := 2) (v := .ref ak) (C := RX2) (T := TX2) (N := 9) hx hb hts hi2 hown hK hP 0 rfl rfl 0 (by decide) lk11 (fun _ h9 => h9) rfl dX2_kite_65 ?_
          refine lv_iload hx hb dX2_kite_68 (lv_at hl 0 rfl) ?_
          have hc8 : n < 8 := by rw [i32_lt, nI_toInt (by omega)] at c_45; have e8 : (8 : Int32).toInt = 8 := (by decide); omega
          refine va_new (D := (dC, dI)) (ci := 1) (fs := [.int 0, .int 0, .int 0, .int 0, .int 0, .int 0, .int 0, .int 0, .int 0]) (C := RX1) (T := TX1) (N := 9) hx hb hts hi1 tyX1 tyX1_ok hown (hts (.classLink RX2 9 RX1) (by decide +kernel)) (hts (.instantiable RX1 9) (by decide +kernel)) (hts (.initialized RX1) (by decide +kernel)) hK hP hD hS hA rfl (fun j hj => by rcases (show j = 0 ∨ j = 1 ∨ j = 2 ∨ j = 3 ∨ j = 4 ∨ j = 5 ∨ j = 6 ∨ j = 7 ∨ j = 8 by omega) with rfl | rfl | rfl | rfl | rfl | rfl | rfl | rfl | rfl <;> rfl) (Nat.le_of_ble_eq_true rfl) (Nat.le_of_ble_eq_true rfl) dX2_kite_70 (fun q H hP hD hS => ?_)
          refine lv_dup hx hb dX2_kite_73 rfl ?_
          refine lv_iload hx hb dX2_kite_74 (lv_at hl 0 rfl) ?_
          refine lv_iload_n hx hb dX2_kite_76 rfl (lv_at hl 2 rfl) ?_
          refine lv_iload_n hx hb dX2_kite_77 rfl (lv_at hl 3 rfl) ?_
          refine lv_iload_n hx hb dX2_kite_78 rfl (lv_at hl 4 rfl) ?_
          have hq1 := snoc_P hP
          have hqD := snoc_D hD
          have hq0 := snoc_at (cW tK tB h ak ab af ka kb n p F) ((q, .inr (1, [.int 0, .int 0, .int 0, .int 0, .int 0, .int 0, .int 0, .int 0, .int 0])) : Nat × va_E)
          refine va_callv (va_runI (As := [.int (nI n), .int kd, .int ar, .int wt]) (rest := [.ref q, .int (nI n), .ref ak]) ⟨hx, hb, hml, hown, hts⟩ (c_X1_init l9 dC dI H.size q (nI n) kd ar wt) (cwI 4 hts gX2_kite_X1_init rfl rfl rfl (hts (.initialized RX1) (by decide +kernel)) (hts (.methodLink RX2 44 yX1_init) (by decide +kernel)) (hts (.instanceMethod yX1_init) (by decide +kernel)) rfl (by decide +kernel) ⟨Nat.le_of_ble_eq_true rfl, Nat.le_of_ble_eq_true rfl⟩) ⟨PWr.blind, PWr.pre hq1 (hK.sub (tys' := []) [] rfl) hqD hE ((hH.kept hS.2.1).narrow (A_in hqD hS hA))⟩ rfl rfl hl.1 rfl (lv_room (Nat.le_of_ble_eq_true rfl)) dX2_kite_79 ⟨Nat.le_of_ble_eq_true rfl, Nat.le_of_ble_eq_true rfl⟩) hS (fun q _ hq => A_in hqD hS hA q hq) (A_in hqD hS hA) (fun u9 t9 H1 locs ht9 hvm hw9 hB hz1 hk1 hS => ?_)
          have hP1 : va_P (dC, dI) vwCl [(q, .inr (1, [.int (nI n), .int kd, .int ar, .int wt, .int 0, .int 0, .int (-1), .int (-1), .int 0]))] H1 := by rw [← ht9]; exact hB
          obtain ⟨hP, hD⟩ := join_1 hP hD hq0 hk1 hP1
          rw [snoc_set] at hP hD
          generalize H1 = H at hP hS ⊢
          have hq0 := snoc_at (cW tK tB h ak ab af ka kb n p F) ((q, .inr (1, [.int (nI n), .int kd, .int ar, .int wt, .int 0, .int 0, .int (-1), .int (-1), .int 0])) : Nat × va_E)
          refine my_astq hx hb hK hP hD hS 1 0 _ 1 rfl rfl hq0 rfl hc8 (Nat.le_of_ble_eq_true rfl) dX2_kite_82 (fun H locs hP hD hS => ?_)
          refine lv_aload_n hx hb dX2_kite_83 rfl (lv_at hl 1 rfl) ?_
          refine lv_dup hx hb dX2_kite_84 rfl ?_
          refine va_get (D := (dC, dI)) (ci := 2) (v := .int (nI n)) (C := RX2) (T := TX2) (N := 9) hx hb hts hi2 hown hK hP 0 rfl rfl 1 (by decide) lk35 (fun _ h9 => h9) rfl dX2_kite_85 ?_
          refine lv_iconst (v := 1) hx hb dX2_kite_88 (by decide) ?_
          refine lv_iadd hx hb dX2_kite_89 ?_
          refine W_top (y := .int (nI (n + 1))) (congrArg Value.int (nI_1 n)) ?_
          refine va_put (D := (dC, dI)) (ci := 2) (v := .int (nI (n + 1))) (ty := .int) (C := RX2) (T := TX2) (N := 9) hx hb hts hi2 tyX2 tyX2_ok nmX2 hown hK hP hD hS 0 rfl rfl 1 (by decide) lk35 (fun _ h9 => h9) rfl (by decide +kernel) rfl rfl (Nat.le_of_ble_eq_true rfl) dX2_kite_90 (fun H locs hP hD hS => ?_)
          have hz := hI.2.2.1 n (Nat.le_refl _)
          have hP : va_P (dC, dI) vwCl (cW tK tB h ak ab af (va_up ka n q) kb (n + 1) p (nwF n F kd ar wt)) H := P_eq (cW_newk hz.1 hz.2.1 hz.2.2) (va_P.swap (a := _ :: _ :: _ :: _ :: kL ka F n) (b := bL ka kb F (hbF F n) p) (c := [(q, .inr (1, [.int (nI n), .int kd, .int ar, .int wt, .int 0, .int 0, .int (-1), .int (-1), .int 0]))]) hP)
          have hD : va_D A (cW tK tB h ak ab af (va_up ka n q) kb (n + 1) p (nwF n F kd ar wt)) := D_eq (cW_newk hz.1 hz.2.1 hz.2.2) (va_D.swap (a := _ :: _ :: _ :: _ :: kL ka F n) (b := bL ka kb F (hbF F n) p) (c := [(q, .inr (1, [.int (nI n), .int kd, .int ar, .int wt, .int 0, .int 0, .int (-1), .int (-1), .int 0]))]) hD)
          refine lv_iload hx hb dX2_kite_93 (lv_at hl 0 rfl) ?_
          have hS9 : S_kite n F kd ar wt = (0, nI n, n + 1, nwF n F kd ar wt) := by rw [S_kite, if_pos ⟨c_6, c_16, c_26⟩]; exact if_neg (by omega)
          refine vx_ret ?_
          refine W.widen (k := 1) (n := 9) (Nat.le_of_ble_eq_true rfl) (Nat.le_of_ble_eq_true rfl) ?_
          exact W.iret (v := nI n) hx hb hr (fun t ht hW => cQ_mk (va_up ka n q) kb (by rw [hS9]) (by rw [hS9]) (by rw [hS9, ht]; exact hP) (by rw [hS9]; exact hD) (hS.F ht)) hS.2.2 dX2_kite_95
        · skip
          have hS9 : S_kite n F kd ar wt = (2, 0, n, F) := by rw [S_kite, if_pos ⟨c_6, c_16, c_26⟩]; exact if_pos (by rw [i32_lt, nI_toInt (by omega)] at c_45; have e8 : (8 : Int32).toInt = 8 := (by decide); omega)
          obtain ⟨sa, hsa⟩ := hE.2.2.2 (41, "there are 8 kites") (by decide +kernel)
          exact vx_throwS (own := RX2) (cls := "java/lang/IllegalStateException") (text := "there are 8 kites") (names := ["java/lang/RuntimeException", "java/lang/Exception"]) (ik := 39) (is := 41) (ic := 43) (sa := sa) (A := A) hx hb hlt hown (by decide +kernel) (by decide +kernel) (hts (.classLink RX2 39 "java/lang/IllegalStateException") (by decide +kernel)) (hts (.initialized "java/lang/IllegalStateException") (by decide +kernel)) hsa (vx_hat (B := [.castable "java/lang/IllegalStateException" "java/lang/IllegalStateException", .declares dR, .declares dE, .declares dT]) (fun w hw => hts w (List.mem_cons_of_mem _ (List.mem_append_right _ hw))) (by decide +kernel) (vx_c (yc.use hE.2.1.2.1) (vx_c (va_Nw.use rfl hE.1.2.1) (vx_c (va_Nw.use rfl hE.1.2.2.1) (vx_c (va_Nw.use rfl hE.1.2.2.2) vx_n))))) (by decide +kernel) hH.1 hH.2 hS (hl.1.trans hml.symm) dX2_kite_48 dX2_kite_51 dX2_kite_52 dX2_kite_54 dX2_kite_57 (fun x hx => (hout x hx).elim) (Nat.le_of_ble_eq_true rfl) (Nat.le_of_ble_eq_true rfl) (Nat.le_of_ble_eq_true rfl) (Nat.le_of_ble_eq_true rfl) hlocks (fun t _ h1 h2 => ⟨(), trivial, Or.inr (⟨rfl, (by rw [hS9])⟩), h1, fun q hq _ => h2 q hq⟩) (fun z hz => absurd hz List.not_mem_nil) (Nat.le_of_ble_eq_true rfl) (Nat.le_of_ble_eq_true rfl)
      · skip
        have c_26 := bi_z.mp c_26
        have hS9 : S_kite n F kd ar wt = (1, 0, n, F) := by rw [S_kite]; exact if_neg (fun q => c_26 q.2.2)
        obtain ⟨sa, hsa⟩ := hE.2.2.2 (30, "kind, area or weight is out of range") (by decide +kernel)
        exact vx_throwS (own := RX2) (cls := "java/lang/IllegalArgumentException") (text := "kind, area or weight is out of range") (names := ["java/lang/RuntimeException", "java/lang/Exception"]) (ik := 28) (is := 30) (ic := 32) (sa := sa) (A := A) hx hb hlt hown (by decide +kernel) (by decide +kernel) (hts (.classLink RX2 28 "java/lang/IllegalArgumentException") (by decide +kernel)) (hts (.initialized "java/lang/IllegalArgumentException") (by decide +kernel)) hsa (vx_hat (B := [.castable "java/lang/IllegalArgumentException" "java/lang/IllegalArgumentException", .declares dR, .declares dE, .declares dT]) (fun w hw => hts w (List.mem_cons_of_mem _ (List.mem_append_left _ (List.mem_append_right _ hw)))) (by decide +kernel) (vx_c (yc.use hE.2.1.1) (vx_c (va_Nw.use rfl hE.1.2.1) (vx_c (va_Nw.use rfl hE.1.2.2.1) (vx_c (va_Nw.use rfl hE.1.2.2.2) vx_n))))) (by decide +kernel) hH.1 hH.2 hS (hl.1.trans hml.symm) dX2_kite_29 dX2_kite_32 dX2_kite_33 dX2_kite_35 dX2_kite_38 (fun x hx => (hout x hx).elim) (Nat.le_of_ble_eq_true rfl) (Nat.le_of_ble_eq_true rfl) (Nat.le_of_ble_eq_true rfl) (Nat.le_of_ble_eq_true rfl) hlocks (fun t _ h1 h2 => ⟨(), trivial, Or.inl (⟨rfl, (by rw [hS9])⟩), h1, fun q hq _ => h2 q hq⟩) (fun z hz => absurd hz List.not_mem_nil) (Nat.le_of_ble_eq_true rfl) (Nat.le_of_ble_eq_true rfl)

set_option maxHeartbeats 4000000 in
set_option maxRecDepth 100000 in
theorem c_X2_borrower (l9 : Launch) (hlt : l9.stackTraces = false) (dC : Nat → ClassId) (dI : Nat → Nat → Nat) (sz : Nat) {tK tB : ClassId} (h ak ab af : Nat) (ka kb : Nat → Nat) (n p : Nat) (F : Rows) (sk : Int32) (hI : Inv n p F) : vx_Met l9 yX2_borrower wsX2_borrower ({ frames := 6, cells := 1, slots := 6, locals := 82 }) (va_Pc [.ref h, .int sk] (PWr dC dI [(tK, .object "Windlane$Kite"), (tB, .object "Windlane$Borrower")] (cW tK tB h ak ab af ka kb n p F) sz)) (cQ dC dI tK tB h ak ab af (va_A (cW tK tB h ak ab af ka kb n p F) sz) n ((S_borrower p F sk).2.2.1) ((S_borrower p F sk).2.2.2) ((S_borrower p F sk).1) ((S_borrower p F sk).2.1)) (vx_X (fun _ : Unit => True) (fun E _ _ => (E = "java/lang/IllegalArgumentException" ∧ (S_borrower p F sk).1 = 1) ∨ (E = "java/lang/IllegalStateException" ∧ (S_borrower p F sk).1 = 2)) (fun _ => False)) 1 6 (va_A (cW tK tB h ak ab af ka kb n p F) sz) := by
  refine vx_ofW (cc := cX2_borrower) (maxL := 3) (ret := (some .int)) (by decide) rfl ?_
  intro p9 e9 s m args below meth c s₁ B hml hout hv
  obtain ⟨rfl, hsz, hP, hK, hD0, hE, hH⟩ := hv
  have hx := B.exec
  have hb := B.bytes
  have hr := B.returns
  have hts := atoms_spec (ws := wsX2_borrower) B.pre
  have hown : s.vm.findClass RX2 = some m.cls := findClass_of_methodNamed B.named
  have hlocks := B.notSynchronized
  have hi0 : ∀ w ∈ u_ws RX0 TX0 2, w ∈ wsX2_borrower := by decide +kernel
  have hi2 : ∀ w ∈ u_ws RX2 TX2 9, w ∈ wsX2_borrower := by decide +kernel
  have lk17 := hts (.fieldLink RX2 17 "Windlane" "borrowers" "[LWindlane$Borrower;") (by decide +kernel)
  have lk64 := hts (.fieldLink RX2 64 "Windlane" "borrowerCount" "I") (by decide +kernel)
  subst hsz
  have hD := hD0.self (sz := s.heap.size)
  generalize hAe : va_A (cW tK tB h ak ab af ka kb n p F) s.heap.size = A at hD hH ⊢
  have hA : ∀ q : Nat, s.heap.size ≤ q → A q := fun q h => by rw [← hAe]; exact Or.inr h
  have hS : va_S A s.heap s.heap [] := va_S.rf
  have hP : va_P (dC, dI) vwCl (cW tK tB h ak ab af ka kb n p F) s.heap := hP
  have hn8 : n ≤ 8 := hI.1.1
  have hp8 : p ≤ 8 := hI.1.2
  have hl := lv_entry ([.ref h, .int sk]) (n := 3) (Nat.le_of_ble_eq_true rfl)
  rw [lg_entry_eq]
  generalize (lg_sl ([.ref h, .int sk]) ++ List.replicate (3 - (lg_sl ([.ref h, .int sk])).length) Slot.unset).toArray = ls at hl ⊢
  have hl : lv_has ls 3 [(0, .ref h), (1, .int sk)] := hl
  refine lv_iload_n hx hb dX2_borrower_0 rfl (lv_at hl 1 rfl) ?_
  refine lv_iconst (v := 1) hx hb dX2_borrower_1 (by decide) ?_
  refine lv_iconst (v := 3) hx hb dX2_borrower_2 (by decide) ?_
  refine vp_callSi (va_Run.run (va_runS (As := [.int sk, .int 1, .int 3]) (rest := []) ⟨hx, hb, hml, hown, hts⟩ (c_X2_isWithin l9 sk 1 3) (va_cwS 3 hts gX2_borrower_X2_isWithin rfl rfl rfl (by decide +kernel) ⟨Nat.le_of_ble_eq_true rfl, Nat.le_of_ble_eq_true rfl⟩) ⟨fun a U g mk q => q, fun U hU hW => ⟨rfl, trivial⟩⟩ rfl rfl hl.1 rfl (lv_room (Nat.le_of_ble_eq_true rfl)) dX2_borrower_3 ⟨Nat.le_of_ble_eq_true rfl, Nat.le_of_ble_eq_true rfl⟩)) (fun r hr => ?_)
  subst hr
  refine lv_if_ne (tgt := 19) hx hb dX2_borrower_6 (by decide) (fun c_6 => ?_) (fun c_6 => ?_)
  · skip
    have c_6 := bi_nz.mp c_6
    refine lv_aload_n hx hb dX2_borrower_19 rfl (lv_at hl 0 rfl) ?_
    refine va_get (D := (dC, dI)) (ci := 2) (v := .int (nI p)) (C := RX2) (T := TX2) (N := 9) hx hb hts hi2 hown hK hP 0 rfl rfl 3 (by decide) lk64 (fun _ h9 => h9) rfl dX2_borrower_20 ?_
    refine lv_bipush (v := 8) hx hb dX2_borrower_23 (by decide) ?_
    refine lv_icmp_lt (tgt := 38) hx hb dX2_borrower_25 (by decide) (fun c_25 => ?_) (fun c_25 => ?_)
    · skip
      refine lv_aload_n hx hb dX2_borrower_38 rfl (lv_at hl 0 rfl) ?_
      refine va_get (D := (dC, dI)) (ci := 2) (v := .int (nI p)) (C := RX2) (T := TX2) (N := 9) hx hb hts hi2 hown hK hP 0 rfl rfl 3 (by decide) lk64 (fun _ h9 => h9) rfl dX2_borrower_39 ?_
      refine lv_istore_n (lv' := [(2, .int (nI p)), (0, .ref h), (1, .int sk)]) hx hb dX2_borrower_42 rfl hl (by decide) rfl (fun ls hl => ?_)
      refine lv_aload_n hx hb dX2_borrower_43 rfl (lv_at hl 1 rfl) ?_
      refine va_get (D := (dC, dI)) (ci := 2) (v := .ref ab) (C := RX2) (T := TX2) (N := 9) hx hb hts hi2 hown hK hP 0 rfl rfl 2 (by decide) lk17 (fun _ h9 => h9) rfl dX2_borrower_44 ?_
      refine lv_iload_n hx hb dX2_borrower_47 rfl (lv_at hl 0 rfl) ?_
      have hc8 : p < 8 := by rw [i32_lt, nI_toInt (by omega)] at c_25; have e8 : (8 : Int32).toInt = 8 := (by decide); omega
      refine va_new (D := (dC, dI)) (ci := 0) (fs := [.int 0, .null]) (C := RX0) (T := TX0) (N := 2) hx hb hts hi0 tyX0 tyX0_ok hown (hts (.classLink RX2 15 RX0) (by decide +kernel)) (hts (.instantiable RX0 2) (by decide +kernel)) (hts (.initialized RX0) (by decide +kernel)) hK hP hD hS hA rfl (fun j hj => by rcases (show j = 0 ∨ j = 1 by omega) with rfl | rfl <;> rfl) (Nat.le_of_ble_eq_true rfl) (Nat.le_of_ble_eq_true rfl) dX2_borrower_48 (fun q H hP hD hS => ?_)
      refine lv_dup hx hb dX2_borrower_51 rfl ?_
      refine lv_iload_n hx hb dX2_borrower_52 rfl (lv_at hl 2 rfl) ?_
      have hq1 := snoc_P hP
      have hqD := snoc_D hD
      have hq0 := snoc_at (cW tK tB h ak ab af ka kb n p F) ((q, .inr (0, [.int 0, .null])) : Nat × va_E)
      refine va_callv (va_runI (As := [.int sk]) (rest := [.ref q, .int (nI p), .ref ab]) ⟨hx, hb, hml, hown, hts⟩ (c_X0_init l9 dC dI H.size q sk) (cwI 1 hts gX2_borrower_X0_init rfl rfl rfl (hts (.initialized RX0) (by decide +kernel)) (hts (.methodLink RX2 69 yX0_init) (by decide +kernel)) (hts (.instanceMethod yX0_init) (by decide +kernel)) rfl (by decide +kernel) ⟨Nat.le_of_ble_eq_true rfl, Nat.le_of_ble_eq_true rfl⟩) ⟨PWr.blind, PWr.pre hq1 (hK.sub (tys' := []) [] rfl) hqD hE ((hH.kept hS.2.1).narrow (A_in hqD hS hA))⟩ rfl rfl hl.1 rfl (lv_room (Nat.le_of_ble_eq_true rfl)) dX2_borrower_53 ⟨Nat.le_of_ble_eq_true rfl, Nat.le_of_ble_eq_true rfl⟩) hS (fun q _ hq => A_in hqD hS hA q hq) (A_in hqD hS hA) (fun u9 t9 H1 locs ht9 hvm hw9 hB hz1 hk1 hS => ?_)
      have hP1 : va_P (dC, dI) vwCl [(q, .inr (0, [.int sk, .null]))] H1 := by rw [← ht9]; exact hB
      obtain ⟨hP, hD⟩ := join_1 hP hD hq0 hk1 hP1
      rw [snoc_set] at hP hD
      generalize H1 = H at hP hS ⊢
      have hq0 := snoc_at (cW tK tB h ak ab af ka kb n p F) ((q, .inr (0, [.int sk, .null])) : Nat × va_E)
      refine my_astq hx hb hK hP hD hS 2 1 _ 0 rfl rfl hq0 rfl hc8 (Nat.le_of_ble_eq_true rfl) dX2_borrower_56 (fun H locs hP hD hS => ?_)
      refine lv_aload_n hx hb dX2_borrower_57 rfl (lv_at hl 1 rfl) ?_
      refine lv_dup hx hb dX2_borrower_58 rfl ?_
      refine va_get (D := (dC, dI)) (ci := 2) (v := .int (nI p)) (C := RX2) (T := TX2) (N := 9) hx hb hts hi2 hown hK hP 0 rfl rfl 3 (by decide) lk64 (fun _ h9 => h9) rfl dX2_borrower_59 ?_
      refine lv_iconst (v := 1) hx hb dX2_borrower_62 (by decide) ?_
      refine lv_iadd hx hb dX2_borrower_63 ?_
      refine W_top (y := .int (nI (p + 1))) (congrArg Value.int (nI_1 p)) ?_
      refine va_put (D := (dC, dI)) (ci := 2) (v := .int (nI (p + 1))) (ty := .int) (C := RX2) (T := TX2) (N := 9) hx hb hts hi2 tyX2 tyX2_ok nmX2 hown hK hP hD hS 0 rfl rfl 3 (by decide) lk64 (fun _ h9 => h9) rfl (by decide +kernel) rfl rfl (Nat.le_of_ble_eq_true rfl) dX2_borrower_64 (fun H locs hP hD hS => ?_)
      have h5 : ∀ k, k < n → ¬ F 5 k = nI p := fun k hk q => by
        rcases (hI.2.1 k hk).2.2.2.2.2.1 with z | ⟨j, hj, z⟩
        · exact nI_m1 (by omega) (q.symm.trans z)
        · have := nI_inj (by omega) (by omega) (q.symm.trans z); omega
      have hP : va_P (dC, dI) vwCl (cW tK tB h ak ab af ka (va_up kb p q) n (p + 1) (up F 8 p sk)) H := P_eq (cW_newb hc8 h5) hP
      have hD : va_D A (cW tK tB h ak ab af ka (va_up kb p q) n (p + 1) (up F 8 p sk)) := D_eq (cW_newb hc8 h5) hD
      refine lv_iload_n hx hb dX2_borrower_67 rfl (lv_at hl 0 rfl) ?_
      have hS9 : S_borrower p F sk = (0, nI p, p + 1, up F 8 p sk) := by rw [S_borrower, if_pos c_6]; exact if_neg (by omega)
      refine vx_ret ?_
      refine W.widen (k := 1) (n := 6) (Nat.le_of_ble_eq_true rfl) (Nat.le_of_ble_eq_true rfl) ?_
      exact W.iret (v := nI p) hx hb hr (fun t ht hW => cQ_mk ka (va_up kb p q) (by rw [hS9]) (by rw [hS9]) (by rw [hS9, ht]; exact hP) (by rw [hS9]; exact hD) (hS.F ht)) hS.2.2 dX2_borrower_68
    · skip
      have hS9 : S_borrower p F sk = (2, 0, p, F) := by rw [S_borrower, if_pos c_6]; exact if_pos (by rw [i32_lt, nI_toInt (by omega)] at c_25; have e8 : (8 : Int32).toInt = 8 := (by decide); omega)
      obtain ⟨sa, hsa⟩ := hE.2.2.2 (67, "there are 8 borrowers") (by decide +kernel)
      exact vx_throwS (own := RX2) (cls := "java/lang/IllegalStateException") (text := "there are 8 borrowers") (names := ["java/lang/RuntimeException", "java/lang/Exception"]) (ik := 39) (is := 67) (ic := 43) (sa := sa) (A := A) hx hb hlt hown (by decide +kernel) (by decide +kernel) (hts (.classLink RX2 39 "java/lang/IllegalStateException") (by decide +kernel)) (hts (.initialized "java/lang/IllegalStateException") (by decide +kernel)) hsa (vx_hat (B := [.castable "java/lang/IllegalStateException" "java/lang/IllegalStateException", .declares dR, .declares dE, .declares dT]) (fun w hw => hts w (List.mem_cons_of_mem _ (List.mem_append_right _ hw))) (by decide +kernel) (vx_c (yc.use hE.2.1.2.1) (vx_c (va_Nw.use rfl hE.1.2.1) (vx_c (va_Nw.use rfl hE.1.2.2.1) (vx_c (va_Nw.use rfl hE.1.2.2.2) vx_n))))) (by decide +kernel) hH.1 hH.2 hS (hl.1.trans hml.symm) dX2_borrower_28 dX2_borrower_31 dX2_borrower_32 dX2_borrower_34 dX2_borrower_37 (fun x hx => (hout x hx).elim) (Nat.le_of_ble_eq_true rfl) (Nat.le_of_ble_eq_true rfl) (Nat.le_of_ble_eq_true rfl) (Nat.le_of_ble_eq_true rfl) hlocks (fun t _ h1 h2 => ⟨(), trivial, Or.inr (⟨rfl, (by rw [hS9])⟩), h1, fun q hq _ => h2 q hq⟩) (fun z hz => absurd hz List.not_mem_nil) (Nat.le_of_ble_eq_true rfl) (Nat.le_of_ble_eq_true rfl)
  · skip
    have c_6 := bi_z.mp c_6
    have hS9 : S_borrower p F sk = (1, 0, p, F) := by rw [S_borrower]; exact if_neg c_6
    obtain ⟨sa, hsa⟩ := hE.2.2.2 (62, "skill is out of range") (by decide +kernel)
    exact vx_throwS (own := RX2) (cls := "java/lang/IllegalArgumentException") (text := "skill is out of range") (names := ["java/lang/RuntimeException", "java/lang/Exception"]) (ik := 28) (is := 62) (ic := 32) (sa := sa) (A := A) hx hb hlt hown (by decide +kernel) (by decide +kernel) (hts (.classLink RX2 28 "java/lang/IllegalArgumentException") (by decide +kernel)) (hts (.initialized "java/lang/IllegalArgumentException") (by decide +kernel)) hsa (vx_hat (B := [.castable "java/lang/IllegalArgumentException" "java/lang/IllegalArgumentException", .declares dR, .declares dE, .declares dT]) (fun w hw => hts w (List.mem_cons_of_mem _ (List.mem_append_left _ (List.mem_append_right _ hw)))) (by decide +kernel) (vx_c (yc.use hE.2.1.1) (vx_c (va_Nw.use rfl hE.1.2.1) (vx_c (va_Nw.use rfl hE.1.2.2.1) (vx_c (va_Nw.use rfl hE.1.2.2.2) vx_n))))) (by decide +kernel) hH.1 hH.2 hS (hl.1.trans hml.symm) dX2_borrower_9 dX2_borrower_12 dX2_borrower_13 dX2_borrower_15 dX2_borrower_18 (fun x hx => (hout x hx).elim) (Nat.le_of_ble_eq_true rfl) (Nat.le_of_ble_eq_true rfl) (Nat.le_of_ble_eq_true rfl) (Nat.le_of_ble_eq_true rfl) hlocks (fun t _ h1 h2 => ⟨(), trivial, Or.inl (⟨rfl, (by rw [hS9])⟩), h1, fun q hq _ => h2 q hq⟩) (fun z hz => absurd hz List.not_mem_nil) (Nat.le_of_ble_eq_true rfl) (Nat.le_of_ble_eq_true rfl)

abbrev F00 : Rows := fun _ _ => 0
theorem kF_0 (ka : Nat → Nat) : (fun _ => none) = kF ka 0 := by funext j; exact (if_neg (Nat.not_lt_zero j)).symm
theorem lF_0 (ka : Nat → Nat) : (fun _ => none) = lF ka (flF F00 0) := by
  funext l
  show none = (flF F00 0 l).map ka
  unfold flF
  split <;> rfl
theorem RA_one {U : State} {c1 c2 : ClassId} {C : String} (h1 : va_RA U c1 (.object C)) (h2 : va_RA U c2 (.object C)) : c1 = c2 := by
  obtain ⟨_, _, _, _, _, e1⟩ := h1
  obtain ⟨_, _, _, _, _, e2⟩ := h2
  exact Option.some.inj (e1.symm.trans e2)
abbrev cZero : List Value := [.null, .int 0, .null, .int 0, .null, .int 0, .int 0, .int 0, .int 0]
abbrev cTys (tK tB : ClassId) : List (ClassId × FieldType) := [(tK, .object "Windlane$Kite"), (tB, .object "Windlane$Borrower")]
def PNew (dC : Nat → ClassId) (dI : Nat → Nat → Nat) (h sz : Nat) (U : State) : Prop := PWr dC dI [] [(h, .inr (2, cZero))] sz U ∧ va_AO RX1 U ∧ va_AO RX0 U
theorem PNew.blind {dC : Nat → ClassId} {dI : Nat → Nat → Nat} {h sz : Nat} {av : List Value} : FrameBlind (va_Pc av (PNew dC dI h sz)) := fun a U g mk q => by
  obtain ⟨q0, q1, q2, q3⟩ := q
  exact ⟨q0, (PWr.blind (av := av) a U g mk ⟨q0, q1⟩).2, va_AO.moved (u := U) (U := U.calling g mk a) (Vm.Alike.refl U.vm) q2, va_AO.moved (u := U) (U := U.calling g mk a) (Vm.Alike.refl U.vm) q3⟩

set_option maxHeartbeats 4000000 in
set_option maxRecDepth 100000 in
theorem c_X2_init (l : Launch) (dC : Nat → ClassId) (dI : Nat → Nat → Nat) (sz : Nat) (h : Nat) : Met l yX2_init wsX2_init ({ frames := 1, cells := 3, slots := 26, locals := 12 }) (va_Pc [.ref h] (PNew dC dI h sz)) (va_Qv (S := ClassId × ClassId × Nat × Nat × Nat) (fun _ => True) (fun u t => va_K (dC, dI) vwCl (cTys u.1 u.2.1) t ∧ va_P (dC, dI) vwCl (cW u.1 u.2.1 h u.2.2.1 u.2.2.2.1 u.2.2.2.2 (fun _ => 0) (fun _ => 0) 0 0 F00) t.heap ∧ va_D ((va_A ([(h, .inr (2, cZero))]) sz)) (cW u.1 u.2.1 h u.2.2.1 u.2.2.2.1 u.2.2.2.2 (fun _ => 0) (fun _ => 0) 0 0 F00)) (va_A ([(h, .inr (2, cZero))]) sz)) 3 26 (va_A ([(h, .inr (2, cZero))]) sz) := by
  refine Met.ofW (cc := cX2_init) (maxL := 1) (ret := none) (by decide) rfl ?_
  intro p e s m args below meth c s₁ B hml hv
  obtain ⟨rfl, ⟨hsz, hP, hK, hD0, hE, hH⟩, hO1, hO0⟩ := hv
  have hx := B.exec
  have hb := B.bytes
  have hr := B.returns
  have hts := atoms_spec (ws := wsX2_init) B.pre
  have hown : s.vm.findClass RX2 = some m.cls := findClass_of_methodNamed B.named
  have hlocks := B.notSynchronized
  have hin : meth.name = "<init>" := (name_of_methodNamed B.named B.method).1
  have hi2 : ∀ w ∈ u_ws RX2 TX2 9, w ∈ wsX2_init := by decide +kernel
  have lk11 := hts (.fieldLink RX2 11 "Windlane" "kites" "[LWindlane$Kite;") (by decide +kernel)
  have lk17 := hts (.fieldLink RX2 17 "Windlane" "borrowers" "[LWindlane$Borrower;") (by decide +kernel)
  have lk21 := hts (.fieldLink RX2 21 "Windlane" "flyers" "[LWindlane$Kite;") (by decide +kernel)
  subst hsz
  have hD := hD0.self (sz := s.heap.size)
  generalize hAe : va_A ([(h, .inr (2, cZero))]) s.heap.size = A at hD hH ⊢
  have hA : ∀ q : Nat, s.heap.size ≤ q → A q := fun q h => by rw [← hAe]; exact Or.inr h
  have hS : va_S A s.heap s.heap [] := va_S.rf
  have hP : va_P (dC, dI) vwCl ([(h, .inr (2, cZero))]) s.heap := hP
  have hl := lv_entry ([.ref h]) (n := 1) (Nat.le_of_ble_eq_true rfl)
  rw [lg_entry_eq]
  generalize (lg_sl ([.ref h]) ++ List.replicate (1 - (lg_sl ([.ref h])).length) Slot.unset).toArray = ls at hl ⊢
  have hl : lv_has ls 1 [(0, .ref h)] := hl
  refine lv_aload_n hx hb dX2_init_0 rfl (lv_at hl 0 rfl) ?_
  refine W.objInit hx hb hown (hts (.methodLink RX2 3 objectInit) (by decide +kernel)) (hts (.instanceMethod objectInit) (by decide +kernel)) (hts _ (List.mem_cons_of_mem _ (List.mem_append_left _ (List.mem_of_getElem? (i := 2) rfl)))) rfl (by rw [hml]; exact hl.1) rfl dX2_init_1 (Nat.le_of_ble_eq_true rfl) (Nat.le_of_ble_eq_true rfl) ?_
  refine W.eq (g2 := F0 m 4 ls []) rfl ?_
  refine lv_aload_n hx hb dX2_init_4 rfl (lv_at hl 0 rfl) ?_
  refine lv_bipush (v := 8) hx hb dX2_init_5 (by decide) ?_
  refine va_newq hx hb hown (hts (.classLink RX2 9 RX1) (by decide +kernel)) hO1 hK hP hD hS hA (N' := 8) (by decide) rfl (by decide) (Nat.le_of_ble_eq_true rfl) (Nat.le_of_ble_eq_true rfl) dX2_init_7 (fun q1 t1 H hK hP hD hS => ?_)
  refine va_putF (D := (dC, dI)) (ci := 2) (v := .ref q1) (ty := .array (.object "Windlane$Kite")) (C := RX2) (T := TX2) (N := 9) hx hb hts hi2 tyX2 tyX2_ok nmX2 hown hK hP hD hS 0 rfl rfl 0 (by decide) lk11 (fun _ h9 => h9) rfl hin rfl (by decide +kernel) rfl rfl (Nat.le_of_ble_eq_true rfl) dX2_init_10 (fun H locs hP hD hS => ?_)
  refine lv_aload_n hx hb dX2_init_13 rfl (lv_at hl 0 rfl) ?_
  refine lv_bipush (v := 8) hx hb dX2_init_14 (by decide) ?_
  refine va_newq hx hb hown (hts (.classLink RX2 15 RX0) (by decide +kernel)) hO0 hK hP hD hS hA (N' := 8) (by decide) rfl (by decide) (Nat.le_of_ble_eq_true rfl) (Nat.le_of_ble_eq_true rfl) dX2_init_16 (fun q2 t2 H hK hP hD hS => ?_)
  refine va_putF (D := (dC, dI)) (ci := 2) (v := .ref q2) (ty := .array (.object "Windlane$Borrower")) (C := RX2) (T := TX2) (N := 9) hx hb hts hi2 tyX2 tyX2_ok nmX2 hown hK hP hD hS 0 rfl rfl 2 (by decide) lk17 (fun _ h9 => h9) rfl hin rfl (by decide +kernel) rfl rfl (Nat.le_of_ble_eq_true rfl) dX2_init_19 (fun H locs hP hD hS => ?_)
  refine lv_aload_n hx hb dX2_init_22 rfl (lv_at hl 0 rfl) ?_
  refine lv_bipush (v := 10) hx hb dX2_init_23 (by decide) ?_
  refine va_newq hx hb hown (hts (.classLink RX2 9 RX1) (by decide +kernel)) hO1 hK hP hD hS hA (N' := 10) (by decide) rfl (by decide) (Nat.le_of_ble_eq_true rfl) (Nat.le_of_ble_eq_true rfl) dX2_init_25 (fun q3 t3 H hK hP hD hS => ?_)
  refine va_putF (D := (dC, dI)) (ci := 2) (v := .ref q3) (ty := .array (.object "Windlane$Kite")) (C := RX2) (T := TX2) (N := 9) hx hb hts hi2 tyX2 tyX2_ok nmX2 hown hK hP hD hS 0 rfl rfl 4 (by decide) lk21 (fun _ h9 => h9) rfl hin rfl (by decide +kernel) rfl rfl (Nat.le_of_ble_eq_true rfl) dX2_init_28 (fun H locs hP hD hS => ?_)
  have e13 : t1 = t3 := RA_one (hK.2 0 _ rfl).2 (hK.2 2 _ rfl).2
  subst e13
  have hP : va_P (dC, dI) vwCl (cW t1 t2 h q1 q2 q3 (fun _ => 0) (fun _ => 0) 0 0 F00) H := by show va_P _ _ (_ :: (q1, .inl (t1, 8, .inr (.inr (.inr (.inr (kF _ 0)))))) :: (q2, .inl (t2, 8, .inr (.inr (.inr (.inr (kF _ 0)))))) :: (q3, .inl (t1, 10, .inr (.inr (.inr (.inr (lF _ (flF F00 0))))))) :: []) _; rw [← kF_0, ← lF_0]; exact hP
  have hD : va_D A (cW t1 t2 h q1 q2 q3 (fun _ => 0) (fun _ => 0) 0 0 F00) := by show va_D _ (_ :: (q1, .inl (t1, 8, .inr (.inr (.inr (.inr (kF _ 0)))))) :: (q2, .inl (t2, 8, .inr (.inr (.inr (.inr (kF _ 0)))))) :: (q3, .inl (t1, 10, .inr (.inr (.inr (.inr (lF _ (flF F00 0))))))) :: []) ; rw [← kF_0, ← lF_0]; exact hD
  have hK2 := hK.sub (tys' := cTys t1 t2) [0, 1] rfl
  exact W.vret hx hb hr (fun t ht hW => ⟨⟨(t1, t2, q1, q2, q3), rfl, trivial, va_K.moved hW.alike hK2, by show va_P _ _ _ t.heap; rw [ht]; exact hP, hD⟩, hS.F ht⟩) hS.2.2 dX2_init_31
end
section
/-! ===== the questions, rightly asked: the heap stays as it is ===== -/
/-- what 'about' tells -/
def abt (F : Rows) (k : Nat) : Nat → Int32
  | 0 => F 2 k
  | 1 => F 3 k
  | 2 => F 4 k
  | 3 => F 5 k
  | 4 => F 6 k
  | _ => if F 6 k = -1 then -1 else ed F k

set_option maxHeartbeats 4000000 in
set_option maxRecDepth 100000 in
theorem r_X2_kiteAt (l9 : Launch) (dC : Nat → ClassId) (dI : Nat → Nat → Nat) {tK tB : ClassId} (h ak ab af : Nat) (ka kb : Nat → Nat) (n p : Nat) (F : Rows) (k : Nat) (hn8 : n ≤ 8) (hkn : k < n) : Met l9 yX2_kiteAt wsX2_kiteAt ({ frames := 1, cells := 0, slots := 0, locals := 22 }) (va_Pc [.ref h, .int (nI k)] (PRo dC dI [(tK, .object "Windlane$Kite"), (tB, .object "Windlane$Borrower")] (cW tK tB h ak ab af ka kb n p F))) (va_Sq (fun r9 => r9 = some (ka k))) 0 0 (fun _ => False) := by
  refine Met.ofW (cc := cX2_kiteAt) (maxL := 3) (ret := (some (.object "Windlane$Kite"))) (by decide) rfl ?_
  intro p9 e9 s m args below meth c s₁ B hml hv
  obtain ⟨rfl, hP, hK, hE⟩ := hv
  have hx := B.exec
  have hb := B.bytes
  have hr := B.returns
  have hts := atoms_spec (ws := wsX2_kiteAt) B.pre
  have hown : s.vm.findClass RX2 = some m.cls := findClass_of_methodNamed B.named
  have hlocks := B.notSynchronized
  have hP : va_P (dC, dI) vwCl (cW tK tB h ak ab af ka kb n p F) s.heap := hP
  have hi2 : ∀ w ∈ u_ws RX2 TX2 9, w ∈ wsX2_kiteAt := by decide +kernel
  have lk11 := hts (.fieldLink RX2 11 "Windlane" "kites" "[LWindlane$Kite;") (by decide +kernel)
  have hl := lv_entry ([.ref h, .int (nI k)]) (n := 3) (Nat.le_of_ble_eq_true rfl)
  rw [lg_entry_eq]
  generalize (lg_sl ([.ref h, .int (nI k)]) ++ List.replicate (3 - (lg_sl ([.ref h, .int (nI k)])).length) Slot.unset).toArray = ls at hl ⊢
  have hl : lv_has ls 3 [(0, .ref h), (1, .int (nI k))] := hl
  have hk8 : k < 8 := by omega
  refine lv_iload_n hx hb dX2_kiteAt_0 rfl (lv_at hl 1 rfl) ?_
  refine lv_iconst (v := 0) hx hb dX2_kiteAt_1 (by decide) ?_
  refine lv_bipush (v := 7) hx hb dX2_kiteAt_2 (by decide) ?_
  refine vp_callSi (va_Run.run (va_runS (As := [.int (nI k), .int 0, .int 7]) (rest := []) ⟨hx, hb, hml, hown, hts⟩ (c_X2_isWithin l9 (nI k) 0 7) (va_cwS 3 hts gX2_kiteAt_X2_isWithin rfl rfl rfl (by decide +kernel) ⟨Nat.le_of_ble_eq_true rfl, Nat.le_of_ble_eq_true rfl⟩) ⟨fun a U g mk q => q, fun U hU hW => ⟨rfl, trivial⟩⟩ rfl rfl hl.1 rfl (lv_room (Nat.le_of_ble_eq_true rfl)) dX2_kiteAt_4 ⟨Nat.le_of_ble_eq_true rfl, Nat.le_of_ble_eq_true rfl⟩)) (fun r hr => ?_)
  subst hr
  refine lv_if_eq (tgt := 19) hx hb dX2_kiteAt_7 (by decide) (fun c_7 => absurd c_7 (bi_nz.mpr ((inR_lit (n := 8) (by decide) _).mpr (inR_nI hk8 (by decide))))) (fun _ => ?_)
  refine lv_aload_n hx hb dX2_kiteAt_10 rfl (lv_at hl 0 rfl) ?_
  refine va_get (D := (dC, dI)) (ci := 2) (v := .ref ak) (C := RX2) (T := TX2) (N := 9) hx hb hts hi2 hown hK hP 0 rfl rfl 0 (by decide) lk11 (fun _ h9 => h9) rfl dX2_kiteAt_11 ?_
  refine lv_iload_n hx hb dX2_kiteAt_14 rfl (lv_at hl 1 rfl) ?_
  refine my_aldq hx hb hK hP 1 0 rfl rfl hk8 (Nat.le_of_ble_eq_true rfl) dX2_kiteAt_15 ?_
  refine W_top (y := .ref (ka k)) (show va_rf (if k < n then some (ka k) else none) = _ by rw [if_pos hkn]; rfl) ?_
  refine lv_goto (tgt := 20) hx hb dX2_kiteAt_16 (by decide) ?_
  refine lv_astore_n (lv' := [(2, .ref (ka k)), (0, .ref h), (1, .int (nI k))]) hx hb dX2_kiteAt_20 rfl hl (by decide) rfl (fun ls hl => ?_)
  refine lv_aload_n hx hb dX2_kiteAt_21 rfl (lv_at hl 0 rfl) ?_
  refine lv_ifnonnull (tgt := 35) hx hb dX2_kiteAt_22 (by decide) ?_
  refine lv_aload_n hx hb dX2_kiteAt_35 rfl (lv_at hl 0 rfl) ?_
  exact W.aret (v := .ref (ka k)) hx hb hr (Or.inl ⟨_, rfl⟩) (Or.inr ⟨_, rfl⟩) (fun t ht _ => ⟨some (ka k), rfl, rfl, ht⟩) (fun z hz => absurd hz List.not_mem_nil) dX2_kiteAt_36

set_option maxHeartbeats 4000000 in
set_option maxRecDepth 100000 in
theorem r_X2_about (l9 : Launch) (dC : Nat → ClassId) (dI : Nat → Nat → Nat) {tK tB : ClassId} (h ak ab af : Nat) (ka kb : Nat → Nat) (n p : Nat) (F : Rows) (k v : Nat) (hI : Inv n p F) (hkn : k < n) (hv : v < 6) : Met l9 yX2_about wsX2_about ({ frames := 4, cells := 0, slots := 0, locals := 90 }) (va_Pc [.ref h, .int (nI k), .int (nI v)] (PRo dC dI [(tK, .object "Windlane$Kite"), (tB, .object "Windlane$Borrower")] (cW tK tB h ak ab af ka kb n p F))) (vp_Si (fun r9 => r9 = abt F k v)) 0 0 (fun _ => False) := by
  refine Met.ofW (cc := cX2_about) (maxL := 4) (ret := (some .int)) (by decide) rfl ?_
  intro p9 e9 s m args below meth c s₁ B hml hv
  obtain ⟨rfl, hP, hK, hE⟩ := hv
  have hx := B.exec
  have hb := B.bytes
  have hr := B.returns
  have hts := atoms_spec (ws := wsX2_about) B.pre
  have hown : s.vm.findClass RX2 = some m.cls := findClass_of_methodNamed B.named
  have hlocks := B.notSynchronized
  have hP : va_P (dC, dI) vwCl (cW tK tB h ak ab af ka kb n p F) s.heap := hP
  have hn8 : n ≤ 8 := hI.1.1
  have hp8 : p ≤ 8 := hI.1.2
  have hi1 : ∀ w ∈ u_ws RX1 TX1 9, w ∈ wsX2_about := by decide +kernel
  have hi2 : ∀ w ∈ u_ws RX2 TX2 9, w ∈ wsX2_about := by decide +kernel
  have lk51 := hts (.fieldLink RX2 51 "Windlane$Kite" "isTorn" "Z") (by decide +kernel)
  have lk57 := hts (.fieldLink RX2 57 "Windlane$Kite" "weight" "I") (by decide +kernel)
  have lk86 := hts (.fieldLink RX2 86 "Windlane$Kite" "borrower" "I") (by decide +kernel)
  have lk112 := hts (.fieldLink RX2 112 "Windlane" "windSpeed" "I") (by decide +kernel)
  have lk120 := hts (.fieldLink RX2 120 "Windlane" "windSide" "I") (by decide +kernel)
  have lk133 := hts (.fieldLink RX2 133 "Windlane$Kite" "lane" "I") (by decide +kernel)
  have lk190 := hts (.fieldLink RX2 190 "Windlane$Kite" "wetHours" "I") (by decide +kernel)
  have hl := lv_entry ([.ref h, .int (nI k), .int (nI v)]) (n := 4) (Nat.le_of_ble_eq_true rfl)
  rw [lg_entry_eq]
  generalize (lg_sl ([.ref h, .int (nI k), .int (nI v)]) ++ List.replicate (4 - (lg_sl ([.ref h, .int (nI k), .int (nI v)])).length) Slot.unset).toArray = ls at hl ⊢
  have hl : lv_has ls 4 [(0, .ref h), (1, .int (nI k)), (2, .int (nI v))] := hl
  refine lv_aload_n hx hb dX2_about_0 rfl (lv_at hl 0 rfl) ?_
  refine lv_iload_n hx hb dX2_about_1 rfl (lv_at hl 1 rfl) ?_
  refine va_csq (va_Run.run (va_runV (As := [.int (nI k)]) (rest := []) ⟨hx, hb, hml, hown, hts⟩ (r_X2_kiteAt l9 dC dI h ak ab af ka kb n p F k hn8 hkn) (cwV 1 hts gX2_about_X2_kiteAt rfl rfl rfl (by decide +kernel) ⟨Nat.le_of_ble_eq_true rfl, Nat.le_of_ble_eq_true rfl⟩) ⟨PRo.blind, va_recv hK hP (ci := 2) (q0 := 0) rfl rfl, PRo.pre hP hK hE⟩ rfl rfl hl.1 rfl (lv_room (Nat.le_of_ble_eq_true rfl)) dX2_about_2 ⟨Nat.le_of_ble_eq_true rfl, Nat.le_of_ble_eq_true rfl⟩)) (fun r hr => ?_)
  subst hr
  refine W_top (y := .ref (ka k)) (show va_rf (some (ka k)) = _ from rfl) ?_
  refine lv_astore_n (lv' := [(3, .ref (ka k)), (0, .ref h), (1, .int (nI k)), (2, .int (nI v))]) hx hb dX2_about_5 rfl hl (by decide) rfl (fun ls hl => ?_)
  refine lv_iload_n hx hb dX2_about_6 rfl (lv_at hl 3 rfl) ?_
  obtain rfl | rfl | rfl | rfl | rfl | rfl : v = 0 ∨ v = 1 ∨ v = 2 ∨ v = 3 ∨ v = 4 ∨ v = 5 := by omega
  · skip
    refine lv_tableIn (off := 37) (tgt := 44) hx hb dX2_about_7 (by decide) (by decide) (by decide) (by decide) ?_
    refine lv_aload_n hx hb dX2_about_44 rfl (lv_at hl 0 rfl) ?_
    refine va_get (D := (dC, dI)) (ci := 1) (v := .int (F 2 k)) (C := RX1) (T := TX1) (N := 9) hx hb hts hi1 hown hK hP (k + 4) (cG_k hkn) rfl 3 (by decide) lk57 (fun _ h9 => h9) rfl dX2_about_45 ?_
    exact W.iret (v := F 2 k) hx hb hr (fun t ht _ => ⟨_, rfl, rfl, ht⟩) (fun q hq => absurd hq List.not_mem_nil) dX2_about_48
  · skip
    refine lv_tableIn (off := 42) (tgt := 49) hx hb dX2_about_7 (by decide) (by decide) (by decide) (by decide) ?_
    refine lv_aload_n hx hb dX2_about_49 rfl (lv_at hl 0 rfl) ?_
    refine va_get (D := (dC, dI)) (ci := 1) (v := .int (F 3 k)) (C := RX1) (T := TX1) (N := 9) hx hb hts hi1 hown hK hP (k + 4) (cG_k hkn) rfl 4 (by decide) lk51 (fun _ h9 => h9) rfl dX2_about_50 ?_
    refine lv_if_eq (tgt := 60) hx hb dX2_about_53 (by decide) (fun c_53 => ?_) (fun c_53 => ?_)
    · skip
      refine lv_iconst (v := 0) hx hb dX2_about_60 (by decide) ?_
      exact W.iret (v := 0) hx hb hr (fun t ht _ => ⟨_, rfl, (c_53 : F 3 k = 0).symm, ht⟩) (fun q hq => absurd hq List.not_mem_nil) dX2_about_61
    · skip
      refine lv_iconst (v := 1) hx hb dX2_about_56 (by decide) ?_
      refine lv_goto (tgt := 61) hx hb dX2_about_57 (by decide) ?_
      exact W.iret (v := 1) hx hb hr (fun t ht _ => ⟨_, rfl, ((hI.2.1 k hkn).2.2.2.1.resolve_left c_53).symm, ht⟩) (fun q hq => absurd hq List.not_mem_nil) dX2_about_61
  · skip
    refine lv_tableIn (off := 55) (tgt := 62) hx hb dX2_about_7 (by decide) (by decide) (by decide) (by decide) ?_
    refine lv_aload_n hx hb dX2_about_62 rfl (lv_at hl 0 rfl) ?_
    refine va_get (D := (dC, dI)) (ci := 1) (v := .int (F 4 k)) (C := RX1) (T := TX1) (N := 9) hx hb hts hi1 hown hK hP (k + 4) (cG_k hkn) rfl 5 (by decide) lk190 (fun _ h9 => h9) rfl dX2_about_63 ?_
    exact W.iret (v := F 4 k) hx hb hr (fun t ht _ => ⟨_, rfl, rfl, ht⟩) (fun q hq => absurd hq List.not_mem_nil) dX2_about_66
  · skip
    refine lv_tableIn (off := 60) (tgt := 67) hx hb dX2_about_7 (by decide) (by decide) (by decide) (by decide) ?_
    refine lv_aload_n hx hb dX2_about_67 rfl (lv_at hl 0 rfl) ?_
    refine va_get (D := (dC, dI)) (ci := 1) (v := .int (F 5 k)) (C := RX1) (T := TX1) (N := 9) hx hb hts hi1 hown hK hP (k + 4) (cG_k hkn) rfl 6 (by decide) lk86 (fun _ h9 => h9) rfl dX2_about_68 ?_
    exact W.iret (v := F 5 k) hx hb hr (fun t ht _ => ⟨_, rfl, rfl, ht⟩) (fun q hq => absurd hq List.not_mem_nil) dX2_about_71
  · skip
    refine lv_tableIn (off := 65) (tgt := 72) hx hb dX2_about_7 (by decide) (by decide) (by decide) (by decide) ?_
    refine lv_aload_n hx hb dX2_about_72 rfl (lv_at hl 0 rfl) ?_
    refine va_get (D := (dC, dI)) (ci := 1) (v := .int (F 6 k)) (C := RX1) (T := TX1) (N := 9) hx hb hts hi1 hown hK hP (k + 4) (cG_k hkn) rfl 7 (by decide) lk133 (fun _ h9 => h9) rfl dX2_about_73 ?_
    exact W.iret (v := F 6 k) hx hb hr (fun t ht _ => ⟨_, rfl, rfl, ht⟩) (fun q hq => absurd hq List.not_mem_nil) dX2_about_76
  · skip
    refine lv_tableIn (off := 70) (tgt := 77) hx hb dX2_about_7 (by decide) (by decide) (by decide) (by decide) ?_
    refine lv_aload_n hx hb dX2_about_77 rfl (lv_at hl 0 rfl) ?_
    have hq1 := one_P hP (cG_k hkn)
    refine vp_callSi (va_Run.run (va_runV (As := []) (rest := []) ⟨hx, hb, hml, hown, hts⟩ (c_X1_isFlying l9 dC dI (ka k) k F) (cwV 0 hts gX2_about_X1_isFlying rfl rfl rfl (by decide +kernel) ⟨Nat.le_of_ble_eq_true rfl, Nat.le_of_ble_eq_true rfl⟩) ⟨PRo.blind, va_recv (hK.sub (tys' := []) [] rfl) hq1 (ci := 1) (q0 := 0) rfl rfl, PRo.pre hq1 (hK.sub (tys' := []) [] rfl) hE⟩ rfl rfl hl.1 rfl (lv_room (Nat.le_of_ble_eq_true rfl)) dX2_about_78 ⟨Nat.le_of_ble_eq_true rfl, Nat.le_of_ble_eq_true rfl⟩)) (fun r hr => ?_)
    subst hr
    refine lv_if_eq (tgt := 99) hx hb dX2_about_81 (by decide) (fun c_81 => ?_) (fun c_81 => ?_)
    · skip
      have c_81 := bi_z.mp c_81
      refine lv_iconst (v := (-1)) hx hb dX2_about_99 (by decide) ?_
      exact W.iret (v := (-1)) hx hb hr (fun t ht _ => ⟨_, rfl, (if_pos (Decidable.not_not.mp c_81) : (if F 6 k = -1 then (-1 : Int32) else ed F k) = -1).symm, ht⟩) (fun q hq => absurd hq List.not_mem_nil) dX2_about_100
    · skip
      have c_81 := bi_nz.mp c_81
      refine lv_aload_n hx hb dX2_about_84 rfl (lv_at hl 0 rfl) ?_
      refine lv_aload_n hx hb dX2_about_85 rfl (lv_at hl 1 rfl) ?_
      refine va_get (D := (dC, dI)) (ci := 2) (v := .int (F 9 0)) (C := RX2) (T := TX2) (N := 9) hx hb hts hi2 hown hK hP 0 rfl rfl 5 (by decide) lk112 (fun _ h9 => h9) rfl dX2_about_86 ?_
      refine lv_aload_n hx hb dX2_about_89 rfl (lv_at hl 1 rfl) ?_
      refine va_get (D := (dC, dI)) (ci := 2) (v := .int (F 9 1)) (C := RX2) (T := TX2) (N := 9) hx hb hts hi2 hown hK hP 0 rfl rfl 6 (by decide) lk120 (fun _ h9 => h9) rfl dX2_about_90 ?_
      have hq1 := one_P hP (cG_k hkn)
      refine vp_callSi (va_Run.run (va_runV (As := [.int (F 9 0), .int (F 9 1)]) (rest := []) ⟨hx, hb, hml, hown, hts⟩ (c_X1_endIn l9 dC dI (ka k) k F (F 9 0) (F 9 1) (hI.kd k hkn) (st_ok (hI.fl k hkn c_81))) (cwV 2 hts gX2_about_X1_endIn rfl rfl rfl (by decide +kernel) ⟨Nat.le_of_ble_eq_true rfl, Nat.le_of_ble_eq_true rfl⟩) ⟨PRo.blind, va_recv (hK.sub (tys' := []) [] rfl) hq1 (ci := 1) (q0 := 0) rfl rfl, PRo.pre hq1 (hK.sub (tys' := []) [] rfl) hE⟩ rfl rfl hl.1 rfl (lv_room (Nat.le_of_ble_eq_true rfl)) dX2_about_93 ⟨Nat.le_of_ble_eq_true rfl, Nat.le_of_ble_eq_true rfl⟩)) (fun r hr => ?_)
      subst hr
      refine W_top (y := .int (ed F k)) (rfl) ?_
      refine lv_goto (tgt := 100) hx hb dX2_about_96 (by decide) ?_
      exact W.iret (v := ed F k) hx hb hr (fun t ht _ => ⟨_, rfl, (if_neg c_81 : (if F 6 k = -1 then (-1 : Int32) else ed F k) = ed F k).symm, ht⟩) (fun q hq => absurd hq List.not_mem_nil) dX2_about_100

set_option maxHeartbeats 4000000 in
set_option maxRecDepth 100000 in
theorem r_X2_pull (l9 : Launch) (dC : Nat → ClassId) (dI : Nat → Nat → Nat) {tK tB : ClassId} (h ak ab af : Nat) (ka kb : Nat → Nat) (n p : Nat) (F : Rows) (k : Nat) (sp : Int32) (hI : Inv n p F) (hkn : k < n) (hs : 0 ≤ sp ∧ sp ≤ 30) : Met l9 yX2_pull wsX2_pull ({ frames := 2, cells := 0, slots := 0, locals := 44 }) (va_Pc [.ref h, .int (nI k), .int sp] (PRo dC dI [(tK, .object "Windlane$Kite"), (tB, .object "Windlane$Borrower")] (cW tK tB h ak ab af ka kb n p F))) (vp_Si (fun r9 => r9 = pl F k sp)) 0 0 (fun _ => False) := by
  refine Met.ofW (cc := cX2_pull) (maxL := 4) (ret := (some .int)) (by decide) rfl ?_
  intro p9 e9 s m args below meth c s₁ B hml hv
  obtain ⟨rfl, hP, hK, hE⟩ := hv
  have hx := B.exec
  have hb := B.bytes
  have hr := B.returns
  have hts := atoms_spec (ws := wsX2_pull) B.pre
  have hown : s.vm.findClass RX2 = some m.cls := findClass_of_methodNamed B.named
  have hlocks := B.notSynchronized
  have hP : va_P (dC, dI) vwCl (cW tK tB h ak ab af ka kb n p F) s.heap := hP
  have hn8 : n ≤ 8 := hI.1.1
  have hp8 : p ≤ 8 := hI.1.2
  have hl := lv_entry ([.ref h, .int (nI k), .int sp]) (n := 4) (Nat.le_of_ble_eq_true rfl)
  rw [lg_entry_eq]
  generalize (lg_sl ([.ref h, .int (nI k), .int sp]) ++ List.replicate (4 - (lg_sl ([.ref h, .int (nI k), .int sp])).length) Slot.unset).toArray = ls at hl ⊢
  have hl : lv_has ls 4 [(0, .ref h), (1, .int (nI k)), (2, .int sp)] := hl
  refine lv_aload_n hx hb dX2_pull_0 rfl (lv_at hl 0 rfl) ?_
  refine lv_iload_n hx hb dX2_pull_1 rfl (lv_at hl 1 rfl) ?_
  refine va_csq (va_Run.run (va_runV (As := [.int (nI k)]) (rest := []) ⟨hx, hb, hml, hown, hts⟩ (r_X2_kiteAt l9 dC dI h ak ab af ka kb n p F k hn8 hkn) (cwV 1 hts gX2_pull_X2_kiteAt rfl rfl rfl (by decide +kernel) ⟨Nat.le_of_ble_eq_true rfl, Nat.le_of_ble_eq_true rfl⟩) ⟨PRo.blind, va_recv hK hP (ci := 2) (q0 := 0) rfl rfl, PRo.pre hP hK hE⟩ rfl rfl hl.1 rfl (lv_room (Nat.le_of_ble_eq_true rfl)) dX2_pull_2 ⟨Nat.le_of_ble_eq_true rfl, Nat.le_of_ble_eq_true rfl⟩)) (fun r hr => ?_)
  subst hr
  refine W_top (y := .ref (ka k)) (show va_rf (some (ka k)) = _ from rfl) ?_
  refine lv_astore_n (lv' := [(3, .ref (ka k)), (0, .ref h), (1, .int (nI k)), (2, .int sp)]) hx hb dX2_pull_5 rfl hl (by decide) rfl (fun ls hl => ?_)
  refine lv_iload_n hx hb dX2_pull_6 rfl (lv_at hl 3 rfl) ?_
  refine vp_callSi (va_Run.run (va_runS (As := [.int sp]) (rest := []) ⟨hx, hb, hml, hown, hts⟩ (c_X2_isSpeed l9 sp) (va_cwS 1 hts gX2_pull_X2_isSpeed rfl rfl rfl (by decide +kernel) ⟨Nat.le_of_ble_eq_true rfl, Nat.le_of_ble_eq_true rfl⟩) ⟨fun a U g mk q => q, fun U hU hW => ⟨rfl, trivial⟩⟩ rfl rfl hl.1 rfl (lv_room (Nat.le_of_ble_eq_true rfl)) dX2_pull_7 ⟨Nat.le_of_ble_eq_true rfl, Nat.le_of_ble_eq_true rfl⟩)) (fun r hr => ?_)
  subst hr
  refine lv_if_ne (tgt := 23) hx hb dX2_pull_10 (by decide) (fun _ => ?_) (fun c_10 => absurd c_10 (bi_nz.mpr hs))
  refine lv_aload_n hx hb dX2_pull_23 rfl (lv_at hl 0 rfl) ?_
  refine lv_iload_n hx hb dX2_pull_24 rfl (lv_at hl 3 rfl) ?_
  have hq1 := one_P hP (cG_k hkn)
  refine vp_callSi (va_Run.run (va_runV (As := [.int sp]) (rest := []) ⟨hx, hb, hml, hown, hts⟩ (c_X1_pullIn l9 dC dI (ka k) k F sp (hI.kd k hkn)) (cwV 1 hts gX2_pull_X1_pullIn rfl rfl rfl (by decide +kernel) ⟨Nat.le_of_ble_eq_true rfl, Nat.le_of_ble_eq_true rfl⟩) ⟨PRo.blind, va_recv (hK.sub (tys' := []) [] rfl) hq1 (ci := 1) (q0 := 0) rfl rfl, PRo.pre hq1 (hK.sub (tys' := []) [] rfl) hE⟩ rfl rfl hl.1 rfl (lv_room (Nat.le_of_ble_eq_true rfl)) dX2_pull_25 ⟨Nat.le_of_ble_eq_true rfl, Nat.le_of_ble_eq_true rfl⟩)) (fun r hr => ?_)
  subst hr
  exact W.iret (v := pl F k sp) hx hb hr (fun t ht _ => ⟨_, rfl, rfl, ht⟩) (fun q hq => absurd hq List.not_mem_nil) dX2_pull_28

set_option maxHeartbeats 4000000 in
set_option maxRecDepth 100000 in
theorem r_X2_pullAnew (l9 : Launch) (dC : Nat → ClassId) (dI : Nat → Nat → Nat) {tK tB : ClassId} (h ak ab af : Nat) (ka kb : Nat → Nat) (n p : Nat) (F : Rows) (k : Nat) (sp : Int32) (hI : Inv n p F) (hkn : k < n) (hs : 0 ≤ sp ∧ sp ≤ 30) : Met l9 yX2_pullAnew wsX2_pullAnew ({ frames := 2, cells := 0, slots := 0, locals := 44 }) (va_Pc [.ref h, .int (nI k), .int sp] (PRo dC dI [(tK, .object "Windlane$Kite"), (tB, .object "Windlane$Borrower")] (cW tK tB h ak ab af ka kb n p F))) (vp_Si (fun r9 => r9 = pl F k sp)) 0 0 (fun _ => False) := by
  refine Met.ofW (cc := cX2_pullAnew) (maxL := 4) (ret := (some .int)) (by decide) rfl ?_
  intro p9 e9 s m args below meth c s₁ B hml hv
  obtain ⟨rfl, hP, hK, hE⟩ := hv
  have hx := B.exec
  have hb := B.bytes
  have hr := B.returns
  have hts := atoms_spec (ws := wsX2_pullAnew) B.pre
  have hown : s.vm.findClass RX2 = some m.cls := findClass_of_methodNamed B.named
  have hlocks := B.notSynchronized
  have hP : va_P (dC, dI) vwCl (cW tK tB h ak ab af ka kb n p F) s.heap := hP
  have hn8 : n ≤ 8 := hI.1.1
  have hp8 : p ≤ 8 := hI.1.2
  have hl := lv_entry ([.ref h, .int (nI k), .int sp]) (n := 4) (Nat.le_of_ble_eq_true rfl)
  rw [lg_entry_eq]
  generalize (lg_sl ([.ref h, .int (nI k), .int sp]) ++ List.replicate (4 - (lg_sl ([.ref h, .int (nI k), .int sp])).length) Slot.unset).toArray = ls at hl ⊢
  have hl : lv_has ls 4 [(0, .ref h), (1, .int (nI k)), (2, .int sp)] := hl
  refine lv_aload_n hx hb dX2_pullAnew_0 rfl (lv_at hl 0 rfl) ?_
  refine lv_iload_n hx hb dX2_pullAnew_1 rfl (lv_at hl 1 rfl) ?_
  refine va_csq (va_Run.run (va_runV (As := [.int (nI k)]) (rest := []) ⟨hx, hb, hml, hown, hts⟩ (r_X2_kiteAt l9 dC dI h ak ab af ka kb n p F k hn8 hkn) (cwV 1 hts gX2_pullAnew_X2_kiteAt rfl rfl rfl (by decide +kernel) ⟨Nat.le_of_ble_eq_true rfl, Nat.le_of_ble_eq_true rfl⟩) ⟨PRo.blind, va_recv hK hP (ci := 2) (q0 := 0) rfl rfl, PRo.pre hP hK hE⟩ rfl rfl hl.1 rfl (lv_room (Nat.le_of_ble_eq_true rfl)) dX2_pullAnew_2 ⟨Nat.le_of_ble_eq_true rfl, Nat.le_of_ble_eq_true rfl⟩)) (fun r hr => ?_)
  subst hr
  refine W_top (y := .ref (ka k)) (show va_rf (some (ka k)) = _ from rfl) ?_
  refine lv_astore_n (lv' := [(3, .ref (ka k)), (0, .ref h), (1, .int (nI k)), (2, .int sp)]) hx hb dX2_pullAnew_5 rfl hl (by decide) rfl (fun ls hl => ?_)
  refine lv_iload_n hx hb dX2_pullAnew_6 rfl (lv_at hl 3 rfl) ?_
  refine vp_callSi (va_Run.run (va_runS (As := [.int sp]) (rest := []) ⟨hx, hb, hml, hown, hts⟩ (c_X2_isSpeed l9 sp) (va_cwS 1 hts gX2_pullAnew_X2_isSpeed rfl rfl rfl (by decide +kernel) ⟨Nat.le_of_ble_eq_true rfl, Nat.le_of_ble_eq_true rfl⟩) ⟨fun a U g mk q => q, fun U hU hW => ⟨rfl, trivial⟩⟩ rfl rfl hl.1 rfl (lv_room (Nat.le_of_ble_eq_true rfl)) dX2_pullAnew_7 ⟨Nat.le_of_ble_eq_true rfl, Nat.le_of_ble_eq_true rfl⟩)) (fun r hr => ?_)
  subst hr
  refine lv_if_ne (tgt := 23) hx hb dX2_pullAnew_10 (by decide) (fun _ => ?_) (fun c_10 => absurd c_10 (bi_nz.mpr hs))
  obtain ⟨m0, hm0, rfl⟩ : ∃ m0, m0 < 31 ∧ sp = nI m0 := inR_of (win_inR hs (by decide) (by decide))
  have hl : lv_has ls 4 [(3, .ref (ka k)), (0, .ref h), (1, .int (nI k)), (2, .int (nI m0))] := hl
  refine lv_aload_n hx hb dX2_pullAnew_23 rfl (lv_at hl 0 rfl) ?_
  refine lv_iload_n hx hb dX2_pullAnew_24 rfl (lv_at hl 3 rfl) ?_
  have hq1 := one_P hP (cG_k hkn)
  refine vp_callSi (va_Run.run (va_runV (As := [.int (nI m0)]) (rest := []) ⟨hx, hb, hml, hown, hts⟩ (c_X1_pullByStepsTo l9 dC dI (ka k) k F m0 (hI.kd k hkn) (by omega)) (cwV 1 hts gX2_pullAnew_X1_pullByStepsTo rfl rfl rfl (by decide +kernel) ⟨Nat.le_of_ble_eq_true rfl, Nat.le_of_ble_eq_true rfl⟩) ⟨PRo.blind, va_recv (hK.sub (tys' := []) [] rfl) hq1 (ci := 1) (q0 := 0) rfl rfl, PRo.pre hq1 (hK.sub (tys' := []) [] rfl) hE⟩ rfl rfl hl.1 rfl (lv_room (Nat.le_of_ble_eq_true rfl)) dX2_pullAnew_25 ⟨Nat.le_of_ble_eq_true rfl, Nat.le_of_ble_eq_true rfl⟩)) (fun r hr => ?_)
  subst hr
  exact W.iret (v := pl F k (nI m0)) hx hb hr (fun t ht _ => ⟨_, rfl, rfl, ht⟩) (fun q hq => absurd hq List.not_mem_nil) dX2_pullAnew_28

set_option maxHeartbeats 4000000 in
set_option maxRecDepth 100000 in
theorem r_X2_lane (l9 : Launch) (dC : Nat → ClassId) (dI : Nat → Nat → Nat) {tK tB : ClassId} (h ak ab af : Nat) (ka kb : Nat → Nat) (n p : Nat) (F : Rows) (l : Nat) (hI : Inv n p F) (hl10 : l < 10) : Met l9 yX2_lane wsX2_lane ({ frames := 2, cells := 0, slots := 0, locals := 42 }) (va_Pc [.ref h, .int (nI l)] (PRo dC dI [(tK, .object "Windlane$Kite"), (tB, .object "Windlane$Borrower")] (cW tK tB h ak ab af ka kb n p F))) (vp_Si (fun r9 => r9 = oI (lk (F 6) n (nI l)))) 0 0 (fun _ => False) := by
  refine Met.ofW (cc := cX2_lane) (maxL := 3) (ret := (some .int)) (by decide) rfl ?_
  intro p9 e9 s m args below meth c s₁ B hml hv
  obtain ⟨rfl, hP, hK, hE⟩ := hv
  have hx := B.exec
  have hb := B.bytes
  have hr := B.returns
  have hts := atoms_spec (ws := wsX2_lane) B.pre
  have hown : s.vm.findClass RX2 = some m.cls := findClass_of_methodNamed B.named
  have hlocks := B.notSynchronized
  have hP : va_P (dC, dI) vwCl (cW tK tB h ak ab af ka kb n p F) s.heap := hP
  have hn8 : n ≤ 8 := hI.1.1
  have hp8 : p ≤ 8 := hI.1.2
  have hi1 : ∀ w ∈ u_ws RX1 TX1 9, w ∈ wsX2_lane := by decide +kernel
  have hi2 : ∀ w ∈ u_ws RX2 TX2 9, w ∈ wsX2_lane := by decide +kernel
  have lk21 := hts (.fieldLink RX2 21 "Windlane" "flyers" "[LWindlane$Kite;") (by decide +kernel)
  have lk98 := hts (.fieldLink RX2 98 "Windlane$Kite" "number" "I") (by decide +kernel)
  have hl := lv_entry ([.ref h, .int (nI l)]) (n := 3) (Nat.le_of_ble_eq_true rfl)
  rw [lg_entry_eq]
  generalize (lg_sl ([.ref h, .int (nI l)]) ++ List.replicate (3 - (lg_sl ([.ref h, .int (nI l)])).length) Slot.unset).toArray = ls at hl ⊢
  have hl : lv_has ls 3 [(0, .ref h), (1, .int (nI l))] := hl
  refine lv_iload_n hx hb dX2_lane_0 rfl (lv_at hl 1 rfl) ?_
  refine vp_callSi (va_Run.run (va_runS (As := [.int (nI l)]) (rest := []) ⟨hx, hb, hml, hown, hts⟩ (c_X2_isLane l9 (nI l)) (va_cwS 1 hts gX2_lane_X2_isLane rfl rfl rfl (by decide +kernel) ⟨Nat.le_of_ble_eq_true rfl, Nat.le_of_ble_eq_true rfl⟩) ⟨fun a U g mk q => q, fun U hU hW => ⟨rfl, trivial⟩⟩ rfl rfl hl.1 rfl (lv_room (Nat.le_of_ble_eq_true rfl)) dX2_lane_1 ⟨Nat.le_of_ble_eq_true rfl, Nat.le_of_ble_eq_true rfl⟩)) (fun r hr => ?_)
  subst hr
  refine lv_if_ne (tgt := 17) hx hb dX2_lane_4 (by decide) (fun _ => ?_) (fun c_4 => absurd c_4 (bi_nz.mpr (inR_nI hl10 (by decide))))
  refine lv_aload_n hx hb dX2_lane_17 rfl (lv_at hl 0 rfl) ?_
  refine va_get (D := (dC, dI)) (ci := 2) (v := .ref af) (C := RX2) (T := TX2) (N := 9) hx hb hts hi2 hown hK hP 0 rfl rfl 4 (by decide) lk21 (fun _ h9 => h9) rfl dX2_lane_18 ?_
  refine lv_iload_n hx hb dX2_lane_21 rfl (lv_at hl 1 rfl) ?_
  refine my_aldq hx hb hK hP 3 0 rfl rfl hl10 (Nat.le_of_ble_eq_true rfl) dX2_lane_22 ?_
  rcases hlk : lk (F 6) n (nI l) with _ | k
  · skip
    refine W_top (y := .null) (show va_rf ((flF F n l).map ka) = _ by rw [flF_at hl10, hlk]; rfl) ?_
    refine lv_astore_nN (lv' := [(2, .null), (0, .ref h), (1, .int (nI l))]) hx hb dX2_lane_23 rfl hl (by decide) rfl (fun ls hl => ?_)
    refine lv_aload_nN hx hb dX2_lane_24 rfl (lv_at hl 0 rfl) ?_
    refine lv_ifnonnullN hx hb dX2_lane_25 ?_
    refine lv_iconst (v := (-1)) hx hb dX2_lane_28 (by decide) ?_
    refine lv_goto (tgt := 36) hx hb dX2_lane_29 (by decide) ?_
    exact W.iret (v := (-1)) hx hb hr (fun t ht _ => ⟨_, rfl, rfl, ht⟩) (fun q hq => absurd hq List.not_mem_nil) dX2_lane_36
  · skip
    refine W_top (y := .ref (ka k)) (show va_rf ((flF F n l).map ka) = _ by rw [flF_at hl10, hlk]; rfl) ?_
    have hlkn : k < n := (lk_some hlk).1
    refine lv_astore_n (lv' := [(2, .ref (ka k)), (0, .ref h), (1, .int (nI l))]) hx hb dX2_lane_23 rfl hl (by decide) rfl (fun ls hl => ?_)
    refine lv_aload_n hx hb dX2_lane_24 rfl (lv_at hl 0 rfl) ?_
    refine lv_ifnonnull (tgt := 32) hx hb dX2_lane_25 (by decide) ?_
    refine lv_aload_n hx hb dX2_lane_32 rfl (lv_at hl 0 rfl) ?_
    refine va_get (D := (dC, dI)) (ci := 1) (v := .int (nI k)) (C := RX1) (T := TX1) (N := 9) hx hb hts hi1 hown hK hP (k + 4) (cG_k hlkn) rfl 0 (by decide) lk98 (fun _ h9 => h9) rfl dX2_lane_33 ?_
    exact W.iret (v := nI k) hx hb hr (fun t ht _ => ⟨_, rfl, rfl, ht⟩) (fun q hq => absurd hq List.not_mem_nil) dX2_lane_36

set_option maxHeartbeats 4000000 in
set_option maxRecDepth 100000 in
theorem r_X2_window (l9 : Launch) (dC : Nat → ClassId) (dI : Nat → Nat → Nat) {tK tB : ClassId} (h ak ab af : Nat) (ka kb : Nat → Nat) (n p : Nat) (F : Rows) (k : Nat) (g0 : Int32) (hI : Inv n p F) (hkn : k < n) : Met l9 yX2_window wsX2_window ({ frames := 3, cells := 0, slots := 0, locals := 63 }) (va_Pc [.ref h, .int (nI k), .int g0] (PRo dC dI [(tK, .object "Windlane$Kite"), (tB, .object "Windlane$Borrower")] (cW tK tB h ak ab af ka kb n p F))) (vp_Si (fun r9 => r9 = wd F k g0 31)) 0 0 (fun _ => False) := by
  refine Met.ofW (cc := cX2_window) (maxL := 6) (ret := (some .int)) (by decide) rfl ?_
  intro p9 e9 s m args below meth c s₁ B hml hv
  obtain ⟨rfl, hP, hK, hE⟩ := hv
  have hx := B.exec
  have hb := B.bytes
  have hr := B.returns
  have hts := atoms_spec (ws := wsX2_window) B.pre
  have hown : s.vm.findClass RX2 = some m.cls := findClass_of_methodNamed B.named
  have hlocks := B.notSynchronized
  have hP : va_P (dC, dI) vwCl (cW tK tB h ak ab af ka kb n p F) s.heap := hP
  have hn8 : n ≤ 8 := hI.1.1
  have hp8 : p ≤ 8 := hI.1.2
  have hl := lv_entry ([.ref h, .int (nI k), .int g0]) (n := 6) (Nat.le_of_ble_eq_true rfl)
  rw [lg_entry_eq]
  generalize (lg_sl ([.ref h, .int (nI k), .int g0]) ++ List.replicate (6 - (lg_sl ([.ref h, .int (nI k), .int g0])).length) Slot.unset).toArray = ls at hl ⊢
  have hl : lv_has ls 6 [(0, .ref h), (1, .int (nI k)), (2, .int g0)] := hl
  refine lv_aload_n hx hb dX2_window_0 rfl (lv_at hl 0 rfl) ?_
  refine lv_iload_n hx hb dX2_window_1 rfl (lv_at hl 1 rfl) ?_
  refine va_csq (va_Run.run (va_runV (As := [.int (nI k)]) (rest := []) ⟨hx, hb, hml, hown, hts⟩ (r_X2_kiteAt l9 dC dI h ak ab af ka kb n p F k hn8 hkn) (cwV 1 hts gX2_window_X2_kiteAt rfl rfl rfl (by decide +kernel) ⟨Nat.le_of_ble_eq_true rfl, Nat.le_of_ble_eq_true rfl⟩) ⟨PRo.blind, va_recv hK hP (ci := 2) (q0 := 0) rfl rfl, PRo.pre hP hK hE⟩ rfl rfl hl.1 rfl (lv_room (Nat.le_of_ble_eq_true rfl)) dX2_window_2 ⟨Nat.le_of_ble_eq_true rfl, Nat.le_of_ble_eq_true rfl⟩)) (fun r hr => ?_)
  subst hr
  refine W_top (y := .ref (ka k)) (show va_rf (some (ka k)) = _ from rfl) ?_
  refine lv_astore_n (lv' := [(3, .ref (ka k)), (0, .ref h), (1, .int (nI k)), (2, .int g0)]) hx hb dX2_window_5 rfl hl (by decide) rfl (fun ls hl => ?_)
  refine lv_iconst (v := 0) hx hb dX2_window_6 (by decide) ?_
  refine lv_istore (lv' := [(4, .int 0), (3, .ref (ka k)), (0, .ref h), (1, .int (nI k)), (2, .int g0)]) hx hb dX2_window_7 hl (by decide) rfl (fun ls hl => ?_)
  refine W_loopR (nL := 6) (fun i : Nat => [(4, .int (nI i)), (0, .ref h), (1, .int (nI k)), (2, .int g0), (3, .ref (ka k))]) (fun i => i ≤ 31 ∧ (g0 = 0 → wd F k 0 i = -1) ∧ (¬ g0 = 0 → wd F k g0 (31 - i) = wd F k g0 31)) (fun i => 31 - i) ?_ 0 (⟨Nat.zero_le _, fun _ => rfl, fun _ => rfl⟩) (lv_sub hl [0, 2, 3, 4, 1] rfl)
  intro i ls hI9 hl ih
  have hl : lv_has ls 6 [(4, .int (nI i)), (0, .ref h), (1, .int (nI k)), (2, .int g0), (3, .ref (ka k))] := hl
  obtain ⟨hi31, hg0, hg1⟩ := hI9
  refine lv_iload hx hb dX2_window_9 (lv_at hl 0 rfl) ?_
  refine lv_bipush (v := 30) hx hb dX2_window_11 (by decide) ?_
  refine lv_icmp_gt (tgt := 50) hx hb dX2_window_13 (by decide) (fun c_13 => ?_) (fun c_13 => ?_)
  · skip
    have he : i = 31 := by have q := (nI_ltI (a := 30) (b := i) (by omega) (by omega)).mp c_13; omega
    subst he
    refine lv_iconst (v := (-1)) hx hb dX2_window_50 (by decide) ?_
    exact W.iret (v := (-1)) hx hb hr (fun t ht _ => ⟨_, rfl, ((Decidable.em (g0 = 0)).elim (fun q => by subst q; exact hg0 rfl) (fun q => (hg1 q).symm) : wd F k g0 31 = -1).symm, ht⟩) (fun q hq => absurd hq List.not_mem_nil) dX2_window_51
  · skip
    have hlt9 : i < 31 := Nat.not_le.mp (fun q => c_13 ((nI_ltI (a := 30) (b := i) (by omega) (by omega)).mpr (by omega)))
    refine lv_iload_n hx hb dX2_window_16 rfl (lv_at hl 3 rfl) ?_
    refine W_join (pc := 30) (rest := []) (fun v => v = nI (if g0 = 0 then i else 30 - i)) (fun v hv => ?_) (fun K => ?_)
    · subst hv
      refine lv_istore (lv' := [(5, .int (nI (if g0 = 0 then i else 30 - i))), (4, .int (nI i)), (0, .ref h), (1, .int (nI k)), (2, .int g0), (3, .ref (ka k))]) hx hb dX2_window_30 hl (by decide) rfl (fun ls hl => ?_)
      refine lv_aload_n hx hb dX2_window_32 rfl (lv_at hl 5 rfl) ?_
      refine lv_iload hx hb dX2_window_33 (lv_at hl 0 rfl) ?_
      have hq1 := one_P hP (cG_k hkn)
      refine vp_callSi (va_Run.run (va_runV (As := [.int (nI (if g0 = 0 then i else 30 - i))]) (rest := []) ⟨hx, hb, hml, hown, hts⟩ (c_X1_holdsIn l9 dC dI (ka k) k F (nI (if g0 = 0 then i else 30 - i)) (hI.kd k hkn)) (cwV 1 hts gX2_window_X1_holdsIn rfl rfl rfl (by decide +kernel) ⟨Nat.le_of_ble_eq_true rfl, Nat.le_of_ble_eq_true rfl⟩) ⟨PRo.blind, va_recv (hK.sub (tys' := []) [] rfl) hq1 (ci := 1) (q0 := 0) rfl rfl, PRo.pre hq1 (hK.sub (tys' := []) [] rfl) hE⟩ rfl rfl hl.1 rfl (lv_room (Nat.le_of_ble_eq_true rfl)) dX2_window_35 ⟨Nat.le_of_ble_eq_true rfl, Nat.le_of_ble_eq_true rfl⟩)) (fun r hr => ?_)
      subst hr
      refine lv_if_eq (tgt := 44) hx hb dX2_window_38 (by decide) (fun c_38 => ?_) (fun c_38 => ?_)
      · skip
        have c_38 := bi_z.mp c_38
        refine lv_iinc (v := nI (i + 1)) (lv' := [(4, .int (nI (i + 1))), (5, .int (nI (if g0 = 0 then i else 30 - i))), (0, .ref h), (1, .int (nI k)), (2, .int g0), (3, .ref (ka k))]) hx hb dX2_window_44 hl (k := 1) rfl (nI_1 _) (by decide) rfl (fun ls hl => ?_)
        refine lv_goto (tgt := 9) hx hb dX2_window_47 (by decide) ?_
        have hn1 : g0 = 0 → wd F k 0 (i + 1) = -1 := fun q => by rw [wd_skip (by rw [← show (if g0 = 0 then i else 30 - i) = i from if_pos q]; exact c_38), hg0 q]
        have hn2 : ¬ g0 = 0 → wd F k g0 (31 - (i + 1)) = wd F k g0 31 := fun q => by rw [← hg1 q, show 31 - i = (31 - (i + 1)) + 1 by omega, wd_skip (by rw [show 31 - (i + 1) = 30 - i by omega, ← show (if g0 = 0 then i else 30 - i) = 30 - i from if_neg q]; exact c_38)]
        exact ih (i + 1) ls (by omega) (⟨by omega, hn1, hn2⟩) (lv_sub hl [0, 2, 3, 4, 5] rfl)
      · skip
        have c_38 := bi_nz.mp c_38
        refine lv_iload hx hb dX2_window_41 (lv_at hl 0 rfl) ?_
        exact W.iret (v := nI (if g0 = 0 then i else 30 - i)) hx hb hr (fun t ht _ => ⟨_, rfl, ((Decidable.em (g0 = 0)).elim (fun q => by subst q; rw [if_pos rfl] at c_38 ⊢; exact wd_up c_38 hlt9 (hg0 rfl) hlt9) (fun q => by rw [if_neg q] at c_38 ⊢; rw [← hg1 q, show 31 - i = (30 - i) + 1 by omega]; exact wd_down q c_38) : wd F k g0 31 = nI (if g0 = 0 then i else 30 - i)).symm, ht⟩) (fun q hq => absurd hq List.not_mem_nil) dX2_window_43
    · skip
      refine lv_if_eq (tgt := 28) hx hb dX2_window_17 (by decide) (fun c_17 => ?_) (fun c_17 => ?_)
      · skip
        refine lv_iload hx hb dX2_window_28 (lv_at hl 0 rfl) ?_
        exact K _ (by rw [if_pos c_17])
      · skip
        refine lv_bipush (v := 30) hx hb dX2_window_20 (by decide) ?_
        refine lv_iload hx hb dX2_window_22 (lv_at hl 0 rfl) ?_
        refine lv_isub hx hb dX2_window_24 ?_
        refine lv_goto (tgt := 30) hx hb dX2_window_25 (by decide) ?_
        exact K _ (by rw [if_neg c_17]; exact nI_sub (a := 30) (b := i) (by omega) (by omega))
end
section
theorem hc_eq {n : Nat} (h8 : n ≤ 8) (h : nI n = 8) : n = 8 := nI_inj (by omega) (by omega) h
theorem lk_oI {g : Nat → Int32} {n : Nat} {v : Int32} (h8 : n ≤ 8) : oI (lk g n v) = -1 ↔ lk g n v = none := oI_m1 (fun k hk => by have := (lk_some hk).1; omega)
theorem ed_new {F : Rows} {k : Nat} {ln len : Int32} : ed (up (up F 6 k ln) 7 k len) k = en F k ln len := by
  show en F k (up F 6 k ln 6 k) (up (up F 6 k ln) 7 k len 7 k) = _
  rw [up_ss, up_ss]
end
section
/-! ===== what holds between calls goes on to hold ===== -/
theorem nc_of {F F' : Rows} {n n' : Nat} (h : ∀ l a, l < 10 → lk (F' 6) n' (nI l) = some a → lk (F 6) n (nI l) = some a ∧ ed F' a = ed F a) (hn : ∀ l h, l < h → h < 10 → ¬ crs F n l h) : ∀ l h, l < h → h < 10 → ¬ crs F' n' l h := by
  rintro l m hl hm ⟨a, b, h1, h2, h3⟩
  obtain ⟨g1, e1⟩ := h l a (by omega) h1
  obtain ⟨g2, e2⟩ := h m b hm h2
  exact hn l m hl hm ⟨a, b, g1, g2, by rw [← e1, ← e2]; exact h3⟩
theorem three_of {x : Int32} (h : 0 ≤ x ∧ x ≤ 2) : x = 0 ∨ x = 1 ∨ x = 2 := by
  obtain ⟨k, hk, rfl⟩ := inR_of (n := 3) (win_inR h (by decide) (by decide))
  obtain rfl | rfl | rfl : k = 0 ∨ k = 1 ∨ k = 2 := by omega
  · exact Or.inl rfl
  · exact Or.inr (Or.inl rfl)
  · exact Or.inr (Or.inr rfl)
theorem uq_out {n k : Nat} {g : Nat → Int32} (h : uq n g) : uq n (upd g k (-1)) := by
  intro a b ha hb e q
  rw [upd_at] at e q
  split at e
  · rename_i z; rw [if_pos z] at q; exact absurd rfl q
  · rename_i z
    rw [if_neg z] at q
    rw [upd_at] at e
    split at e
    · exact absurd e q
    · exact h a b ha hb e q
theorem uq_in {n k : Nat} {g : Nat → Int32} {v : Int32} (h : uq n g) (hf : lk g n v = none) : uq n (upd g k v) := by
  intro a b ha hb e q
  rw [upd_at, upd_at] at e
  rw [upd_at] at q
  split at e
  · split at e
    · omega
    · exact absurd e.symm (lk_none.mp hf b hb)
  · rename_i z
    rw [if_neg z] at q
    split at e
    · exact absurd e (lk_none.mp hf a ha)
    · exact h a b ha hb e q
theorem uq_new {n : Nat} {g : Nat → Int32} (h : uq n g) : uq (n + 1) (upd g n (-1)) := by
  intro a b ha hb e q
  rw [upd_at] at e q
  split at e
  · rename_i z; rw [if_pos z] at q; exact absurd rfl q
  · rename_i z
    rw [if_neg z] at q
    rw [upd_at] at e
    split at e
    · exact absurd e q
    · exact h a b (by omega) (by omega) e q
theorem I_start : Inv 0 0 F00 := by
  refine ⟨⟨by omega, by omega⟩, fun k hk => absurd hk (Nat.not_lt_zero k), fun k _ => ⟨rfl, rfl, rfl⟩, ⟨fun a b ha => absurd ha (Nat.not_lt_zero a), fun a b ha => absurd ha (Nat.not_lt_zero a)⟩, ⟨by decide, Or.inl rfl⟩, ?_⟩
  rintro l h - - ⟨a, b, q, -⟩
  cases q
/-- a kite is new -/
theorem I_kite {n p : Nat} {F : Rows} (hI : Inv n p F) (kd ar wt : Int32) : Inv (S_kite n F kd ar wt).2.2.1 p (S_kite n F kd ar wt).2.2.2 := by
  unfold S_kite
  split
  · rename_i hg
    obtain ⟨g1, g2, g3⟩ := hg
    split
    · exact hI
    · rename_i hn
      obtain ⟨⟨hn8, hp8⟩, hk, hz, ⟨hu5, hu6⟩, hs, hc⟩ := hI
      show Inv (n + 1) p (nwF n F kd ar wt)
      refine ⟨⟨by omega, hp8⟩, fun k hk1 => ?_, fun k hk1 => hz k (by omega), ⟨uq_new hu5, uq_new hu6⟩, hs, ?_⟩
      · by_cases e : k = n
        · subst e
          have a0 : nwF k F kd ar wt 0 k = kd := upd_s _ _ _
          have a1 : nwF k F kd ar wt 1 k = ar := upd_s _ _ _
          have a2 : nwF k F kd ar wt 2 k = wt := upd_s _ _ _
          have a5 : nwF k F kd ar wt 5 k = -1 := upd_s _ _ _
          have a6 : nwF k F kd ar wt 6 k = -1 := upd_s _ _ _
          refine ⟨by rw [a0]; exact three_of g1, by rw [a1]; exact g2, by rw [a2]; exact ⟨g3.1, by have h1 := g3.2; rw [i32_le] at h1 ⊢; have c1 : (20 : Int32).toInt = 20 := (by decide); have c2 : (40 : Int32).toInt = 40 := (by decide); omega⟩, Or.inl (hz k (Nat.le_refl k)).1, ⟨0, by omega, (hz k (Nat.le_refl k)).2.1⟩, Or.inl a5, Or.inl a6, fun q => absurd a6 q⟩
        · have hkn : k < n := by omega
          have a0 : nwF n F kd ar wt 0 k = F 0 k := upd_n _ e
          have a1 : nwF n F kd ar wt 1 k = F 1 k := upd_n _ e
          have a2 : nwF n F kd ar wt 2 k = F 2 k := upd_n _ e
          have a5 : nwF n F kd ar wt 5 k = F 5 k := upd_n _ e
          have a6 : nwF n F kd ar wt 6 k = F 6 k := upd_n _ e
          obtain ⟨b0, b1, b2, b3, b4, b5, b6, b7⟩ := hk k hkn
          refine ⟨by rw [a0]; exact b0, by rw [a1]; exact b1, by rw [a2]; exact b2, b3, b4, by rw [a5]; exact b5, by rw [a6]; exact b6, fun q => ?_⟩
          rw [a6] at q
          obtain ⟨c1, c2, c3⟩ := b7 q
          refine ⟨c1, by rw [a5]; exact c2, ?_⟩
          have ep : pl (nwF n F kd ar wt) k (nwF n F kd ar wt 9 0) = pl F k (F 9 0) := by
            show lift (nwF n F kd ar wt 0 k) (nwF n F kd ar wt 1 k) (F 9 0) - 100 * nwF n F kd ar wt 2 k = _
            rw [a0, a1, a2]; rfl
          unfold held
          rw [ep]; exact c3
      · refine nc_of (fun l a hl ha => ?_) hc
        have h1 : lk (nwF n F kd ar wt 6) (n + 1) (nI l) = lk (F 6) n (nI l) := lk_new (nI_m1 (by omega))
        rw [h1] at ha
        refine ⟨ha, ?_⟩
        have e : a ≠ n := by have := (lk_some ha).1; omega
        have a0 : nwF n F kd ar wt 0 a = F 0 a := upd_n _ e
        have a1 : nwF n F kd ar wt 1 a = F 1 a := upd_n _ e
        have a2 : nwF n F kd ar wt 2 a = F 2 a := upd_n _ e
        have a6 : nwF n F kd ar wt 6 a = F 6 a := upd_n _ e
        show 100 * nwF n F kd ar wt 6 a + F 9 1 * F 7 a * 1000 / (1000 + (lift (nwF n F kd ar wt 0 a) (nwF n F kd ar wt 1 a) (F 9 0) - 100 * nwF n F kd ar wt 2 a)) = _
        rw [a0, a1, a2, a6]; rfl
  · exact hI
theorem I_patch {n p : Nat} {F : Rows} (hI : Inv n p F) (its : Int32) : Inv n p (S_patch n F its).2.2 := by
  rcases inR_cases n its with ⟨k, hkn, rfl⟩ | hno
  · have hn8 := hI.1.1
    rw [S_patch, ix_t hkn (by omega)]
    show Inv n p (if ¬ F 3 k = 0 ∧ F 2 k + 2 ≤ 40 then ((0 : Int32), F 2 k + 2, up (up F 3 k 0) 2 k (F 2 k + 2)) else (2, 0, F)).2.2
    split
    · rename_i hg
      obtain ⟨g1, g2⟩ := hg
      obtain ⟨hnp, hk, hz, hu, hs, hc⟩ := hI
      have hk6 : F 6 k = -1 := Decidable.byContradiction (fun q => g1 ((hk k hkn).2.2.2.2.2.2.2 q).1)
      show Inv n p (up (up F 3 k 0) 2 k (F 2 k + 2))
      have e2 : ∀ j, j ≠ k → up (up F 3 k 0) 2 k (F 2 k + 2) 2 j = F 2 j := fun j hj => up_sn (F := up F 3 k 0) _ hj
      have e3 : ∀ j, j ≠ k → up (up F 3 k 0) 2 k (F 2 k + 2) 3 j = F 3 j := fun j hj => up_sn (F := F) (i := 3) _ hj
      have s2 : up (up F 3 k 0) 2 k (F 2 k + 2) 2 k = F 2 k + 2 := up_ss _ _ _ _
      have s3 : up (up F 3 k 0) 2 k (F 2 k + 2) 3 k = 0 := up_ss F 3 k 0
      have ep : ∀ j, j ≠ k → pl (up (up F 3 k 0) 2 k (F 2 k + 2)) j (F 9 0) = pl F j (F 9 0) := fun j hj => by
        show lift (F 0 j) (F 1 j) (F 9 0) - 100 * up (up F 3 k 0) 2 k (F 2 k + 2) 2 j = _
        rw [e2 j hj]; rfl
      refine ⟨hnp, fun j hj => ?_, fun j hj => ?_, hu, hs, nc_of (F := F) (n := n) (fun l a hl ha => ⟨ha, ?_⟩) hc⟩
      · obtain ⟨b0, b1, b2, b3, b4, b5, b6, b7⟩ := hk j hj
        by_cases e : j = k
        · subst e
          suffices hw : 1 ≤ F 2 j + 2 from ⟨b0, b1, by rw [s2]; exact ⟨hw, g2⟩, Or.inl s3, b4, b5, b6, fun q => absurd hk6 q⟩
          have h1 := b2.1
          have h2 := b2.2
          rw [i32_le] at h1 h2 ⊢
          have c1 : (1 : Int32).toInt = 1 := by decide
          have c2 : (2 : Int32).toInt = 2 := by decide
          have c40 : (40 : Int32).toInt = 40 := by decide
          rw [i32_add (by omega) (by omega)]
          omega
        · refine ⟨b0, b1, by rw [e2 j e]; exact b2, by rw [e3 j e]; exact b3, b4, b5, b6, fun q => ?_⟩
          obtain ⟨c1, c2, c3⟩ := b7 q
          refine ⟨by rw [e3 j e]; exact c1, c2, ?_⟩
          show 100 ≤ pl _ j (F 9 0) ∧ pl _ j (F 9 0) ≤ 6000
          rw [ep j e]; exact c3
      · have e : j ≠ k := by omega
        rw [e3 j e]; exact hz j hj
      · have e : a ≠ k := by
          rintro rfl
          have h1 := (lk_some ha).2
          exact nI_m1 (k := l) (by omega) (h1.symm.trans hk6)
        show 100 * F 6 a + F 9 1 * F 7 a * 1000 / (1000 + pl (up (up F 3 k 0) 2 k (F 2 k + 2)) a (F 9 0)) = _
        rw [ep a e]; rfl
    · exact hI
  · rw [S_patch, ix_f hno]; exact hI
theorem I_borrower {n p : Nat} {F : Rows} (hI : Inv n p F) (sk : Int32) : Inv n (S_borrower p F sk).2.2.1 (S_borrower p F sk).2.2.2 := by
  unfold S_borrower
  split
  · split
    · exact hI
    · obtain ⟨⟨hn8, hp8⟩, hk, hz, hu, hs, hc⟩ := hI
      refine ⟨⟨hn8, by show p + 1 ≤ 8; omega⟩, fun k hk1 => ?_, hz, hu, hs, hc⟩
      obtain ⟨b0, b1, b2, b3, b4, b5, b6, b7⟩ := hk k hk1
      exact ⟨b0, b1, b2, b3, b4, b5.imp id (fun q => by obtain ⟨j, hj, q⟩ := q; exact ⟨j, by show j < p + 1; omega, q⟩), b6, b7⟩
  · exact hI
theorem I_lend {n p : Nat} {F : Rows} (hI : Inv n p F) (its b : Int32) : Inv n p (S_lend n p F its b).2 := by
  have hn8 := hI.1.1
  have hp8 := hI.1.2
  rcases inR_cases n its with ⟨k, hkn, rfl⟩ | hno
  · rcases inR_cases p b with ⟨j, hjp, rfl⟩ | hno
    · simp only [S_lend, ix_t hkn (show n < 2147483648 by omega), ix_t hjp (show p < 2147483648 by omega)]
      split
      · rename_i hg
        obtain ⟨g1, g2, g3, g4, g5⟩ := hg
        obtain ⟨hnp, hk, hz, ⟨hu5, hu6⟩, hs, hc⟩ := hI
        show Inv n p (up F 5 k (nI j))
        refine ⟨hnp, fun i hi => ?_, hz, ⟨uq_in hu5 g4, hu6⟩, hs, hc⟩
        obtain ⟨b0, b1, b2, b3, b4, b5, b6, b7⟩ := hk i hi
        by_cases e : i = k
        · subst e
          exact ⟨b0, b1, b2, b3, b4, Or.inr ⟨j, hjp, up_ss _ _ _ _⟩, b6, fun q => absurd g1 (b7 q).2.1⟩
        · have e5 : up F 5 k (nI j) 5 i = F 5 i := up_sn (F := F) _ e
          exact ⟨b0, b1, b2, b3, b4, by rw [e5]; exact b5, b6, fun q => ⟨(b7 q).1, by rw [e5]; exact (b7 q).2.1, (b7 q).2.2⟩⟩
      · exact hI
    · simp only [S_lend, ix_t hkn (show n < 2147483648 by omega), ix_f hno]; exact hI
  · simp only [S_lend, ix_f hno]; exact hI
theorem I_giveBack {n p : Nat} {F : Rows} (hI : Inv n p F) (b : Int32) : Inv n p (S_giveBack n p F b).2.2 := by
  have hn8 := hI.1.1
  have hp8 := hI.1.2
  rcases inR_cases p b with ⟨j, hjp, rfl⟩ | hno
  · simp only [S_giveBack, ix_t hjp (show p < 2147483648 by omega)]
    cases hlk : lk (F 5) n (nI j) with
    | none => exact hI
    | some k =>
      show Inv n p (if F 6 k = -1 then ((0 : Int32), nI k, up F 5 k (-1)) else (2, 0, F)).2.2
      split
      · rename_i hg
        obtain ⟨hnp, hk, hz, ⟨hu5, hu6⟩, hs, hc⟩ := hI
        show Inv n p (up F 5 k (-1))
        refine ⟨hnp, fun i hi => ?_, hz, ⟨uq_out hu5, hu6⟩, hs, hc⟩
        obtain ⟨b0, b1, b2, b3, b4, b5, b6, b7⟩ := hk i hi
        by_cases e : i = k
        · subst e
          exact ⟨b0, b1, b2, b3, b4, Or.inl (up_ss _ _ _ _), b6, fun q => absurd hg q⟩
        · have e5 : up F 5 k (-1) 5 i = F 5 i := up_sn (F := F) _ e
          exact ⟨b0, b1, b2, b3, b4, by rw [e5]; exact b5, b6, fun q => ⟨(b7 q).1, by rw [e5]; exact (b7 q).2.1, (b7 q).2.2⟩⟩
      · exact hI
  · simp only [S_giveBack, ix_f hno]; exact hI
theorem I_fly {n p : Nat} {F : Rows} (hI : Inv n p F) (its ln len : Int32) : Inv n p (S_fly n F its ln len).2.2 := by
  have hn8 := hI.1.1
  rcases inR_cases n its with ⟨k, hkn, rfl⟩ | hno
  · rcases inR_cases 10 ln with ⟨l, hl10, rfl⟩ | hno
    · simp only [S_fly, ix_t hkn (show n < 2147483648 by omega), ix_t hl10 (show (10 : Nat) < 2147483648 by omega)]
      split
      · split
        · rename_i hg
          obtain ⟨g1, g2, g3, g4, g5, g6⟩ := hg
          obtain ⟨hnp, hk, hz, ⟨hu5, hu6⟩, hs, hc⟩ := hI
          show Inv n p (up (up F 6 k (nI l)) 7 k len)
          have s6 : up (up F 6 k (nI l)) 7 k len 6 k = nI l := up_ss F 6 k (nI l)
          have s7 : up (up F 6 k (nI l)) 7 k len 7 k = len := up_ss _ _ _ _
          have n6 : ∀ j, j ≠ k → up (up F 6 k (nI l)) 7 k len 6 j = F 6 j := fun j hj => up_sn (F := F) (i := 6) _ hj
          have n7 : ∀ j, j ≠ k → up (up F 6 k (nI l)) 7 k len 7 j = F 7 j := fun j hj => up_sn (F := up F 6 k (nI l)) _ hj
          have hed : ∀ j, j ≠ k → ed (up (up F 6 k (nI l)) 7 k len) j = ed F j := fun j hj => by
            show 100 * up (up F 6 k (nI l)) 7 k len 6 j + F 9 1 * up (up F 6 k (nI l)) 7 k len 7 j * 1000 / (1000 + pl F j (F 9 0)) = _
            rw [n6 j hj, n7 j hj]; rfl
          have hedk : ed (up (up F 6 k (nI l)) 7 k len) k = en F k (nI l) len := ed_new
          refine ⟨hnp, fun i hi => ?_, fun j hj => ?_, ⟨hu5, uq_in hu6 g5⟩, hs, ?_⟩
          · obtain ⟨b0, b1, b2, b3, b4, b5, b6, b7⟩ := hk i hi
            by_cases e : i = k
            · subst e
              exact ⟨b0, b1, b2, b3, b4, b5, Or.inr ⟨l, hl10, s6⟩, fun _ => ⟨g2, g1, g4⟩⟩
            · exact ⟨b0, b1, b2, b3, b4, b5, by rw [n6 i e]; exact b6, fun q => b7 (by rw [n6 i e] at q; exact q)⟩
          · have e : j ≠ k := by omega
            rw [n7 j e]; exact hz j hj
          · rintro l1 h1 hl1 hh1 ⟨a, b, q1, q2, q3⟩
            have hat : ∀ m, m < 10 → m ≠ l → lk (up (up F 6 k (nI l)) 7 k len 6) n (nI m) = lk (F 6) n (nI m) := fun m hm hml => by
              show lk (up F 6 k (nI l) 6) n (nI m) = _
              rw [up_r]
              exact lk_take_ne g3 (nI_m1 (by omega)) (fun z => hml (nI_inj (by omega) (by omega) z))
            have hal : lk (up (up F 6 k (nI l)) 7 k len 6) n (nI l) = some k := by
              show lk (up F 6 k (nI l) 6) n (nI l) = _
              rw [up_r]
              exact lk_take hkn g5
            have nek : ∀ m x, lk (F 6) n (nI m) = some x → m < 10 → x ≠ k := fun m x hx hm z => by
              rw [z] at hx
              have := (lk_some hx).2
              exact nI_m1 (k := m) (by omega) (this.symm.trans g3)
            by_cases e1 : l1 = l
            · subst e1
              rw [hal] at q1
              cases q1
              rw [hat h1 hh1 (by omega)] at q2
              have hb := nek h1 b q2 hh1
              rw [hedk, hed b hb] at q3
              obtain ⟨hbn, hb6⟩ := lk_some q2
              refine (g6 b hbn).2 ⟨by rw [hb6]; exact nI_m1 (by omega), ?_, q3⟩
              rw [hb6, i32_lt, nI_toInt (by omega), nI_toInt (by omega)]
              omega
            · rw [hat l1 (by omega) e1] at q1
              have ha := nek l1 a q1 (by omega)
              by_cases e2 : h1 = l
              · subst e2
                rw [hal] at q2
                cases q2
                rw [hedk, hed a ha] at q3
                obtain ⟨han, ha6⟩ := lk_some q1
                refine (g6 a han).1 ⟨by rw [ha6]; exact nI_m1 (by omega), ?_, q3⟩
                rw [ha6, i32_lt, nI_toInt (by omega), nI_toInt (by omega)]
                omega
              · rw [hat h1 hh1 e2] at q2
                have hb := nek h1 b q2 hh1
                rw [hed a ha, hed b hb] at q3
                exact hc l1 h1 hl1 hh1 ⟨a, b, q1, q2, q3⟩
        · exact hI
      · exact hI
    · simp only [S_fly, ix_t hkn (show n < 2147483648 by omega), ix_f hno]; exact hI
  · simp only [S_fly, ix_f hno]; exact hI
/-- a line less -/
theorem nc_dn {F : Rows} {n k : Nat} {F' : Rows} (h6 : F' 6 = upd (F 6) k (-1)) (he : ∀ j, j ≠ k → ed F' j = ed F j) (hc : ∀ l h, l < h → h < 10 → ¬ crs F n l h) (hk : k < n) (hu : uq n (F 6)) : ∀ l h, l < h → h < 10 → ¬ crs F' n l h := by
  refine nc_of (fun l a hl ha => ?_) hc
  rw [h6] at ha
  by_cases e : F 6 k = nI l
  · rw [lk_drop (nI_m1 (by omega)) e (fun j hj q => hu j k hj hk (q.trans e.symm) (by rw [q]; exact nI_m1 (by omega)))] at ha
    cases ha
  · have ha2 := ha
    rw [lk_drop_ne (v := F 6 k) rfl (nI_m1 (by omega)) (fun q => e q.symm)] at ha
    refine ⟨ha, he a ?_⟩
    rintro rfl
    exact e (lk_some ha).2
theorem I_land {n p : Nat} {F : Rows} (hI : Inv n p F) (its : Int32) : Inv n p (S_land n F its).2.2 := by
  have hn8 := hI.1.1
  rcases inR_cases n its with ⟨k, hkn, rfl⟩ | hno
  · simp only [S_land, ix_t hkn (show n < 2147483648 by omega)]
    split
    · exact hI
    · obtain ⟨hnp, hk, hz, ⟨hu5, hu6⟩, hs, hc⟩ := hI
      show Inv n p (up F 6 k (-1))
      have n6 : ∀ j, j ≠ k → up F 6 k (-1) 6 j = F 6 j := fun j hj => up_sn (F := F) (i := 6) _ hj
      refine ⟨hnp, fun i hi => ?_, hz, ⟨hu5, uq_out hu6⟩, hs, nc_dn (up_r F 6 k (-1)) (fun j hj => ?_) hc hkn hu6⟩
      · obtain ⟨b0, b1, b2, b3, b4, b5, b6, b7⟩ := hk i hi
        by_cases e : i = k
        · subst e
          exact ⟨b0, b1, b2, b3, b4, b5, Or.inl (up_ss _ _ _ _), fun q => absurd (up_ss _ _ _ _) q⟩
        · exact ⟨b0, b1, b2, b3, b4, b5, by rw [n6 i e]; exact b6, fun q => b7 (by rw [n6 i e] at q; exact q)⟩
      · show 100 * up F 6 k (-1) 6 j + F 9 1 * F 7 j * 1000 / (1000 + pl F j (F 9 0)) = _
        rw [n6 j hj]; rfl
  · simp only [S_land, ix_f hno]; exact hI
/-! the wind -/
def kJ (p : Nat) (F : Rows) (k : Nat) : Prop := (F 0 k = 0 ∨ F 0 k = 1 ∨ F 0 k = 2) ∧ (1 ≤ F 1 k ∧ F 1 k ≤ 20) ∧ (1 ≤ F 2 k ∧ F 2 k ≤ 40) ∧ (F 3 k = 0 ∨ F 3 k = 1) ∧ (∃ w, w ≤ 6 ∧ F 4 k = nI w) ∧ (F 5 k = -1 ∨ ∃ j, j < p ∧ F 5 k = nI j) ∧ (F 6 k = -1 ∨ ∃ l, l < 10 ∧ F 6 k = nI l) ∧ (¬ F 6 k = -1 → F 3 k = 0 ∧ ¬ F 5 k = -1)
def Jn (n p : Nat) (F : Rows) : Prop := (n ≤ 8 ∧ p ≤ 8) ∧ (∀ k, k < n → kJ p F k) ∧ (∀ k, n ≤ k → F 3 k = 0 ∧ F 4 k = 0 ∧ F 7 k = 0) ∧ (uq n (F 5) ∧ uq n (F 6)) ∧ ((0 ≤ F 9 0 ∧ F 9 0 ≤ 30) ∧ (F 9 2 = 0 ∨ F 9 2 = 1))
theorem J_of {n p : Nat} {F : Rows} (hJ : Jn n p F) (hh : ∀ k, k < n → ¬ F 6 k = -1 → held F k (F 9 0)) (hc : ∀ l h, l < h → h < 10 → ¬ crs F n l h) : Inv n p F := by
  obtain ⟨hnp, hk, hz, hu, hs⟩ := hJ
  refine ⟨hnp, fun k hkn => ?_, hz, hu, hs, hc⟩
  obtain ⟨b0, b1, b2, b3, b4, b5, b6, b7⟩ := hk k hkn
  exact ⟨b0, b1, b2, b3, b4, b5, b6, fun q => ⟨(b7 q).1, (b7 q).2, hh k hkn q⟩⟩
theorem I_Jw {n p : Nat} {F : Rows} (hI : Inv n p F) {sp sd : Int32} (hs : 0 ≤ sp ∧ sp ≤ 30) : Jn n p (up (up F 9 0 sp) 9 1 sd) := by
  obtain ⟨hnp, hk, hz, hu, hs0, hc⟩ := hI
  refine ⟨hnp, fun k hkn => ?_, hz, hu, hs, hs0.2⟩
  obtain ⟨b0, b1, b2, b3, b4, b5, b6, b7⟩ := hk k hkn
  exact ⟨b0, b1, b2, b3, b4, b5, b6, fun q => ⟨(b7 q).1, (b7 q).2.1⟩⟩
theorem J_uh {n p : Nat} {F : Rows} (hJ : Jn n p F) : Jn n p (uh F n) := by
  obtain ⟨hnp, hk, hz, ⟨hu5, hu6⟩, hs⟩ := hJ
  have e6 : ∀ j, uh F n 6 j = if (decide (j < n) && unh F j) then -1 else F 6 j := fun j => rfl
  have e3 : ∀ j, uh F n 3 j = if (decide (j < n) && unh F j) then bi (6000 < pl F j (F 9 0)) else F 3 j := fun j => rfl
  refine ⟨hnp, fun k hkn => ?_, fun k hkn => ?_, ⟨hu5, mvd_uq hu6⟩, hs⟩
  · obtain ⟨b0, b1, b2, b3, b4, b5, b6, b7⟩ := hk k hkn
    refine ⟨b0, b1, b2, ?_, b4, b5, ?_, fun q => ?_⟩
    · rw [e3]
      split
      · exact bi_01 _
      · exact b3
    · rw [e6]
      split
      · exact Or.inl rfl
      · exact b6
    · rw [e6] at q
      split at q
      · exact absurd rfl q
      · rename_i z
        exact ⟨by rw [e3, if_neg z]; exact (b7 q).1, (b7 q).2⟩
  · rw [e3, decide_eq_false (by omega)]
    exact hz k hkn
theorem J_dn {n p : Nat} {F : Rows} (hJ : Jn n p F) (k : Nat) : Jn n p (dn F k) := by
  obtain ⟨hnp, hk, hz, ⟨hu5, hu6⟩, hs⟩ := hJ
  have e6 : ∀ j, dn F k 6 j = if j = k then -1 else F 6 j := fun j => dn_6 F k j
  refine ⟨hnp, fun i hi => ?_, hz, ⟨hu5, ?_⟩, hs⟩
  · obtain ⟨b0, b1, b2, b3, b4, b5, b6, b7⟩ := hk i hi
    refine ⟨b0, b1, b2, b3, b4, b5, ?_, fun q => ?_⟩
    · rw [e6]
      split
      · exact Or.inl rfl
      · exact b6
    · rw [e6] at q
      split at q
      · exact absurd rfl q
      · exact b7 q
  · have : dn F k 6 = upd (F 6) k (-1) := up_r F 6 k (-1)
    rw [this]; exact uq_out hu6
theorem J_stl {n p : Nat} : ∀ {m : Nat} {F : Rows}, Jn n p F → Jn n p (stl n m F)
  | 0, F, h => h
  | m + 1, F, h => by
    cases hc : cK F n with
    | none => rw [stl_none hc]; exact h
    | some k => rw [stl_some hc]; exact J_stl (J_dn h k)
theorem I_wind {n p : Nat} {F : Rows} (hI : Inv n p F) (sp sd : Int32) : Inv n p (S_wind n F sp sd).2.2 := by
  unfold S_wind
  split
  · rename_i hg
    have hJ := J_uh (I_Jw hI (sd := sd) hg.1)
    have hF : HF n (uh (up (up F 9 0 sp) 9 1 sd) n) := uh_HF hI.1.1 hI.kd hI.2.2.2.1.2 hI.lr
    have hn8 := hI.1.1
    refine J_of (J_stl (m := 10) hJ) (stl_HF hF).2.2.1 (fun l h hl hh => ?_)
    have e := stl_end (m := 10) hF (Nat.le_trans (cnt_le _ n) (by omega))
    have sc := cK_spec (stl n 10 (uh (up (up F 9 0 sp) 9 1 sd) n)) n
    rw [e] at sc
    exact sc l h hl hh
  · exact hI
theorem I_pass {n p : Nat} {F : Rows} (hI : Inv n p F) (hs : Int32) : Inv n p (S_pass n F hs).2.2 := by
  unfold S_pass
  split
  · rename_i hg
    obtain ⟨m, hm, rfl⟩ := inR_of (win_inR (n := 25) hg (by decide) (by decide))
    obtain ⟨hnp, hk, hz, hu, hs0, hc⟩ := hI
    have e4 : ∀ j, wetF F n (nI m) 4 j = if j < n then wetv F (nI m) j else F 4 j := fun j => rfl
    refine ⟨hnp, fun i hi => ?_, fun i hi => ?_, hu, hs0, hc⟩
    · obtain ⟨b0, b1, b2, b3, ⟨w, hw, b4⟩, b5, b6, b7⟩ := hk i hi
      refine ⟨b0, b1, b2, b3, ?_, b5, b6, b7⟩
      show ∃ w, w ≤ 6 ∧ wetF F n (nI m) 4 i = nI w
      rw [e4, if_pos hi]
      unfold wetv
      split
      · exact ⟨6, by omega, rfl⟩
      · split
        · rename_i q
          rw [b4, i32_lt, nI_toInt (by omega), nI_toInt (by omega)] at q
          exact ⟨w - m, by omega, by rw [b4]; exact nI_sub (by omega) (by omega)⟩
        · exact ⟨0, by omega, rfl⟩
    · show wetF F n (nI m) 3 i = 0 ∧ wetF F n (nI m) 4 i = 0 ∧ wetF F n (nI m) 7 i = 0
      rw [e4, if_neg (by omega)]
      exact hz i hi
  · exact hI
theorem I_rain {n p : Nat} {F : Rows} (hI : Inv n p F) {b : Int32} (hb : b = 0 ∨ b = 1) : Inv n p (up F 9 2 b) := by
  obtain ⟨hnp, hk, hz, hu, hs0, hc⟩ := hI
  exact ⟨hnp, hk, hz, hu, ⟨hs0.1, hb⟩, hc⟩
end
section
/-! ===== what the property needs of the numbers ===== -/
theorem i32_mul {x y : Int32} (h1 : -2147483648 ≤ x.toInt * y.toInt) (h2 : x.toInt * y.toInt < 2147483648) : (x * y).toInt = x.toInt * y.toInt := by
  rw [Int32.toInt_mul]
  exact Int.bmod_eq_of_le (by omega) (by omega)
theorem i32_nge {x y : Int32} (h : ¬ x ≤ y) : y < x := by rw [i32_le] at h; rw [i32_lt]; omega
theorem i32_ngt {x y : Int32} (h : ¬ x < y) : y ≤ x := by rw [i32_lt] at h; rw [i32_le]; omega
theorem nI_btw {x a b : Int32} {m n : Nat} (h : a ≤ x ∧ x ≤ b) (ha : a.toInt = m) (hb : b.toInt = n) : ∃ k, m ≤ k ∧ k ≤ n ∧ x = nI k := by
  obtain ⟨h1, h2⟩ := h
  rw [i32_le] at h1 h2
  have hlt := Int32.toInt_lt x
  refine ⟨x.toInt.toNat, by omega, by omega, ?_⟩
  apply Int32.toInt_inj.mp
  rw [nI_toInt (by omega)]
  omega
/-! lifts as numbers -/
def LN (kd : Int32) (a m : Nat) : Nat := if kd = 0 then 5 * a * m * m else if kd = 1 then 60 * a * m else 80 * a * (if m ≤ 10 then m else 10)
theorem lift_nI (kd : Int32) (a : Nat) {m : Nat} (hm : m ≤ 30) : lift kd (nI a) (nI m) = nI (LN kd a m) := by
  unfold lift LN
  split
  · rw [show (5 : Int32) = nI 5 from rfl, pk_mul, pk_mul, pk_mul]
  · split
    · rw [show (60 : Int32) = nI 60 from rfl, pk_mul, pk_mul]
    · by_cases h : m ≤ 10
      · rw [if_pos h, if_pos (show nI m ≤ 10 from (nI_leI (a := m) (b := 10) (by omega) (by omega)).mpr h), show (80 : Int32) = nI 80 from rfl, pk_mul, pk_mul]
      · rw [if_neg h, if_neg (show ¬ nI m ≤ 10 from fun q => h ((nI_leI (a := m) (b := 10) (by omega) (by omega)).mp q)), show (80 : Int32) = nI 80 from rfl, show (10 : Int32) = nI 10 from rfl, pk_mul, pk_mul]
theorem LN_mono (kd : Int32) (a : Nat) {m m' : Nat} (h : m ≤ m') : LN kd a m ≤ LN kd a m' := by
  unfold LN
  split
  · exact Nat.mul_le_mul (Nat.mul_le_mul (Nat.le_refl _) h) h
  · split
    · exact Nat.mul_le_mul (Nat.le_refl _) h
    · refine Nat.mul_le_mul (Nat.le_refl _) ?_
      split <;> split <;> omega
theorem LN_top (kd : Int32) {a m : Nat} (ha : a ≤ 20) (hm : m ≤ 30) : LN kd a m ≤ 90000 := by
  unfold LN
  split
  · have h1 : 5 * a * m ≤ 100 * 30 := Nat.mul_le_mul (by omega) hm
    have h2 : 5 * a * m * m ≤ 3000 * 30 := Nat.mul_le_mul (by omega) hm
    omega
  · split
    · have h1 : 60 * a * m ≤ 1200 * 30 := Nat.mul_le_mul (by omega) hm
      omega
    · have h1 : 80 * a * (if m ≤ 10 then m else 10) ≤ 1600 * 10 := Nat.mul_le_mul (by omega) (by split <;> omega)
      omega
theorem pl_nI {n p : Nat} {F : Rows} {k : Nat} (h : kOK n p F k) : ∃ a w, a ≤ 20 ∧ w ≤ 40 ∧ ∀ m, m ≤ 30 → (pl F k (nI m)).toInt = (LN (F 0 k) a m : Int) - (100 * w : Nat) := by
  obtain ⟨a, ha1, ha2, ea⟩ := nI_btw (m := 1) (n := 20) h.2.1 (by decide) (by decide)
  obtain ⟨w, hw1, hw2, ew⟩ := nI_btw (m := 1) (n := 40) h.2.2.1 (by decide) (by decide)
  refine ⟨a, w, ha2, hw2, fun m hm => ?_⟩
  unfold pl
  rw [ea, ew, lift_nI _ _ hm, show (100 : Int32) = nI 100 from rfl, pk_mul]
  have := LN_top (F 0 k) ha2 hm
  exact pk_sub_toInt (by omega) (by omega)
theorem pl_mono {n p : Nat} {F : Rows} {k : Nat} (h : kOK n p F k) {m m' : Nat} (hm : m ≤ m') (hm' : m' ≤ 30) : pl F k (nI m) ≤ pl F k (nI m') := by
  obtain ⟨a, w, -, -, hp⟩ := pl_nI h
  rw [i32_le, hp m (by omega), hp m' hm']
  have := LN_mono (F 0 k) a hm
  omega
theorem lift_0 (kd ar : Int32) : lift kd ar 0 = 0 := by
  unfold lift
  split
  · simp
  · split
    · simp
    · rw [if_pos (by decide)]; simp
/-! windows -/
theorem wd_least {F : Rows} {k : Nat} : ∀ r, r ≤ 31 → (wd F k 0 r = -1 ∧ ∀ m, m < r → ¬ held F k (nI m)) ∨ ∃ m, m < r ∧ wd F k 0 r = nI m ∧ held F k (nI m) ∧ ∀ m', m' < m → ¬ held F k (nI m')
  | 0, _ => Or.inl ⟨rfl, fun m h => absurd h (Nat.not_lt_zero m)⟩
  | r + 1, hr => by
    rcases wd_least (F := F) (k := k) r (by omega) with ⟨h1, h2⟩ | ⟨m, h1, h2, h3, h4⟩
    · by_cases h : held F k (nI r)
      · exact Or.inr ⟨r, by omega, by rw [wd, if_pos ⟨h, Or.inr h1⟩], h, h2⟩
      · refine Or.inl ⟨by rw [wd, if_neg (fun q => h q.1), h1], fun m hm => ?_⟩
        rcases Nat.lt_or_ge m r with q | q
        · exact h2 m q
        · have : m = r := by omega
          subst this; exact h
    · refine Or.inr ⟨m, by omega, ?_, h3, h4⟩
      rw [wd, if_neg (fun q => q.2.elim (fun z => z rfl) (fun z => by rw [h2] at z; exact nI_m1 (by omega) z)), h2]
theorem wd_most {F : Rows} {k : Nat} {g : Int32} (hg : ¬ g = 0) : ∀ r, r ≤ 31 → (wd F k g r = -1 ∧ ∀ m, m < r → ¬ held F k (nI m)) ∨ ∃ m, m < r ∧ wd F k g r = nI m ∧ held F k (nI m) ∧ ∀ m', m < m' → m' < r → ¬ held F k (nI m')
  | 0, _ => Or.inl ⟨rfl, fun m h => absurd h (Nat.not_lt_zero m)⟩
  | r + 1, hr => by
    by_cases h : held F k (nI r)
    · exact Or.inr ⟨r, by omega, by rw [wd, if_pos ⟨h, Or.inl hg⟩], h, fun m' h1 h2 => by omega⟩
    · have e : wd F k g (r + 1) = wd F k g r := by rw [wd, if_neg (fun q => h q.1)]
      rcases wd_most (F := F) (k := k) hg r (by omega) with ⟨h1, h2⟩ | ⟨m, h1, h2, h3, h4⟩
      · refine Or.inl ⟨by rw [e, h1], fun m hm => ?_⟩
        rcases Nat.lt_or_ge m r with q | q
        · exact h2 m q
        · have : m = r := by omega
          subst this; exact h
      · refine Or.inr ⟨m, by omega, by rw [e, h2], h3, fun m' q1 q2 => ?_⟩
        rcases Nat.lt_or_ge m' r with q | q
        · exact h4 m' q1 q
        · have : m' = r := by omega
          subst this; exact h
/-- none at all, or from the least to the most -/
theorem wd_both {n p : Nat} {F : Rows} {k : Nat} (h : kOK n p F k) : (wd F k 0 31 = -1 ∧ wd F k 1 31 = -1) ∨ ∃ a b, a ≤ b ∧ b ≤ 30 ∧ wd F k 0 31 = nI a ∧ wd F k 1 31 = nI b ∧ 100 ≤ pl F k (nI a) ∧ pl F k (nI b) ≤ 6000 ∧ (a = 0 ∨ pl F k (nI (a - 1)) < 100) ∧ (b = 30 ∨ 6000 < pl F k (nI (b + 1))) := by
  rcases wd_least (F := F) (k := k) 31 (Nat.le_refl _) with ⟨h1, h2⟩ | ⟨a, ha, h2, h3, h4⟩
  · rcases wd_most (F := F) (k := k) (g := 1) (by decide) 31 (Nat.le_refl _) with ⟨g1, -⟩ | ⟨b, hb, -, g3, -⟩
    · exact Or.inl ⟨h1, g1⟩
    · exact absurd g3 (h2 b hb)
  · rcases wd_most (F := F) (k := k) (g := 1) (by decide) 31 (Nat.le_refl _) with ⟨-, g2⟩ | ⟨b, hb, g2, g3, g4⟩
    · exact absurd h3 (g2 a ha)
    · have hab : a ≤ b := by
        rcases Nat.lt_or_ge b a with q | q
        · exact absurd g3 (h4 b q)
        · exact q
      refine Or.inr ⟨a, b, hab, by omega, h2, g2, h3.1, g3.2, ?_, ?_⟩
      · by_cases q : a = 0
        · exact Or.inl q
        · refine Or.inr ?_
          have q1 := h4 (a - 1) (by omega)
          have q2 := pl_mono h (show a - 1 ≤ a by omega) (by omega)
          have q3 := h3.2
          rw [i32_le] at q2 q3
          rw [i32_lt]
          have c1 : (100 : Int32).toInt = 100 := by decide
          have c2 : (6000 : Int32).toInt = 6000 := by decide
          refine Decidable.byContradiction (fun z => q1 ⟨?_, ?_⟩)
          · rw [i32_le]; omega
          · rw [i32_le]; omega
      · by_cases q : b = 30
        · exact Or.inl q
        · refine Or.inr ?_
          have q1 := g4 (b + 1) (by omega) (by omega)
          have q2 := pl_mono h (show b ≤ b + 1 by omega) (by omega)
          have q3 := g3.1
          rw [i32_le] at q2 q3
          rw [i32_lt]
          have c1 : (100 : Int32).toInt = 100 := by decide
          have c2 : (6000 : Int32).toInt = 6000 := by decide
          refine Decidable.byContradiction (fun z => q1 ⟨?_, ?_⟩)
          · rw [i32_le]; omega
          · rw [i32_le]; omega
/-! the ends of lines stay small -/
theorem en_rng {F : Rows} {k l : Nat} {len : Int32} (hl : l < 10) (hs : -5 ≤ F 9 1 ∧ F 9 1 ≤ 5) (hlen : 10 ≤ len ∧ len ≤ 100) (hh : held F k (F 9 0)) : -1000 < (en F k (nI l) len).toInt ∧ (en F k (nI l) len).toInt < 2000 := by
  obtain ⟨s1, s2⟩ := hs
  obtain ⟨l1, l2⟩ := hlen
  obtain ⟨p1, p2⟩ := hh
  rw [i32_le] at s1 s2 l1 l2 p1 p2
  have c1 : (-5 : Int32).toInt = -5 := by decide
  have c2 : (5 : Int32).toInt = 5 := by decide
  have c3 : (10 : Int32).toInt = 10 := by decide
  have c4 : (100 : Int32).toInt = 100 := by decide
  have c5 : (6000 : Int32).toInt = 6000 := by decide
  have c6 : (1000 : Int32).toInt = 1000 := by decide
  rw [c1] at s1; rw [c2] at s2; rw [c3] at l1; rw [c4] at l2 p1; rw [c5] at p2
  have m1 : -500 ≤ (F 9 1).toInt * len.toInt ∧ (F 9 1).toInt * len.toInt ≤ 500 := by
    have : (F 9 1).toInt = -5 ∨ (F 9 1).toInt = -4 ∨ (F 9 1).toInt = -3 ∨ (F 9 1).toInt = -2 ∨ (F 9 1).toInt = -1 ∨ (F 9 1).toInt = 0 ∨ (F 9 1).toInt = 1 ∨ (F 9 1).toInt = 2 ∨ (F 9 1).toInt = 3 ∨ (F 9 1).toInt = 4 ∨ (F 9 1).toInt = 5 := by omega
    rcases this with e | e | e | e | e | e | e | e | e | e | e <;> rw [e] <;> omega
  have e1 : (F 9 1 * len).toInt = (F 9 1).toInt * len.toInt := i32_mul (by omega) (by omega)
  have e2 : (F 9 1 * len * 1000).toInt = (F 9 1).toInt * len.toInt * 1000 := by rw [i32_mul (by rw [e1, c6]; omega) (by rw [e1, c6]; omega), e1, c6]
  have e3 : (1000 + pl F k (F 9 0)).toInt = 1000 + (pl F k (F 9 0)).toInt := by rw [i32_add (by rw [c6]; omega) (by rw [c6]; omega), c6]
  have hq : ((F 9 1 * len * 1000).toInt.tdiv (1000 + pl F k (F 9 0)).toInt).natAbs ≤ 454 := by
    rw [Int.natAbs_tdiv, e2, e3]
    exact Nat.le_of_lt_succ (Nat.div_lt_of_lt_mul (by omega))
  have e4 : (F 9 1 * len * 1000 / (1000 + pl F k (F 9 0))).toInt = (F 9 1 * len * 1000).toInt.tdiv (1000 + pl F k (F 9 0)).toInt := by
    rw [Int32.toInt_div]
    exact Int.bmod_eq_of_le (by omega) (by omega)
  have e5 : (100 * nI l : Int32) = nI (100 * l) := pk_mul 100 l
  unfold en
  rw [e5]
  have e6 : (nI (100 * l)).toInt = (100 * l : Nat) := nI_toInt (by omega)
  rw [i32_add (by rw [e6, e4]; omega) (by rw [e6, e4]; omega), e6, e4]
  omega
/-- side and lengths -/
def In2 (n : Nat) (F : Rows) : Prop := (-5 ≤ F 9 1 ∧ F 9 1 ≤ 5) ∧ ∀ k, k < n → ¬ F 6 k = -1 → 10 ≤ F 7 k ∧ F 7 k ≤ 100
theorem ed_rng {n p : Nat} {F : Rows} (hI : Inv n p F) (h2 : In2 n F) {l k : Nat} (hl : l < 10) (h : lk (F 6) n (nI l) = some k) : -1000 < (ed F k).toInt ∧ (ed F k).toInt < 2000 := by
  obtain ⟨hk, h6⟩ := lk_some h
  have hne : ¬ F 6 k = -1 := by rw [h6]; exact nI_m1 (by omega)
  unfold ed
  rw [h6]
  exact en_rng hl h2.1 (h2.2 k hk hne) (hI.fl k hk hne)
theorem ed_lt {n p : Nat} {F : Rows} (hI : Inv n p F) {l l' a b : Nat} (h : l < l') (h' : l' < 10) (ha : lk (F 6) n (nI l) = some a) (hb : lk (F 6) n (nI l') = some b) : (ed F a).toInt < (ed F b).toInt := by
  have := hI.2.2.2.2.2 l l' h h'
  rw [← i32_lt]
  exact i32_nge (fun q => this ⟨a, b, ha, hb, q⟩)
/-! counts -/
theorem cnt_imp {b c : Nat → Bool} : ∀ {n : Nat}, (∀ j, j < n → b j = true → c j = true) → cnt b n ≤ cnt c n
  | 0, _ => Nat.le_refl _
  | n + 1, h => by
    have ih := cnt_imp (b := b) (c := c) (n := n) (fun j hj => h j (Nat.lt_succ_of_lt hj))
    have hn := h n (Nat.lt_succ_self n)
    by_cases hb : b n = true
    · rw [cnt_t hb, cnt_t (hn hb)]; omega
    · rw [cnt_f hb]
      by_cases hc : c n = true
      · rw [cnt_t hc]; omega
      · rw [cnt_f hc]; exact ih
theorem cnt_or {a b c : Nat → Bool} : ∀ {n : Nat}, (∀ j, j < n → c j = true → a j = true ∨ b j = true) → cnt c n ≤ cnt a n + cnt b n
  | 0, _ => Nat.le_refl _
  | n + 1, h => by
    have ih := cnt_or (a := a) (b := b) (c := c) (n := n) (fun j hj => h j (Nat.lt_succ_of_lt hj))
    have hn := h n (Nat.lt_succ_self n)
    have ha : cnt a n ≤ cnt a (n + 1) := by rw [cnt]; omega
    have hb : cnt b n ≤ cnt b (n + 1) := by rw [cnt]; omega
    by_cases hc : c n = true
    · rw [cnt_t hc]
      rcases hn hc with q | q
      · rw [cnt_t q]; omega
      · rw [cnt_t q]; omega
    · rw [cnt_f hc]; omega
theorem cnt_split {b c d : Nat → Bool} : ∀ {n : Nat}, (∀ j, j < n → d j = (c j && !b j) ∧ (b j = true → c j = true)) → cnt d n + cnt b n = cnt c n
  | 0, _ => rfl
  | n + 1, h => by
    have ih := cnt_split (b := b) (c := c) (d := d) (n := n) (fun j hj => h j (Nat.lt_succ_of_lt hj))
    obtain ⟨h1, h2⟩ := h n (Nat.lt_succ_self n)
    rw [cnt, cnt, cnt, h1]
    cases hb : b n <;> cases hc : c n
    · simp; omega
    · simp; omega
    · rw [h2 hb] at hc; cases hc
    · simp; omega
/-- how many are torn -/
def tn (F : Rows) (n : Nat) : Nat := cnt (fun j => decide (¬ F 3 j = 0)) n
/-! the wind: what stays, what comes down -/
theorem stl_keep {n : Nat} : ∀ (m : Nat) (F : Rows), (∀ i, i ≠ 6 → i ≠ 9 → stl n m F i = F i) ∧ (∀ j, stl n m F 6 j = -1 ∨ stl n m F 6 j = F 6 j) ∧ ∀ c, c ≠ 3 → stl n m F 9 c = F 9 c
  | 0, F => ⟨fun _ _ _ => rfl, fun _ => Or.inr rfl, fun _ _ => rfl⟩
  | m + 1, F => by
    cases hc : cK F n with
    | none => rw [stl_none hc]; exact ⟨fun _ _ _ => rfl, fun _ => Or.inr rfl, fun _ _ => rfl⟩
    | some k =>
      rw [stl_some hc]
      obtain ⟨h1, h2, h3⟩ := stl_keep (n := n) m (dn F k)
      refine ⟨fun i h6 h9 => ?_, fun j => ?_, fun c hc3 => ?_⟩
      · rw [h1 i h6 h9]
        unfold dn
        rw [up_n _ _ h9, up_n _ _ h6]
      · rcases h2 j with q | q
        · exact Or.inl q
        · rw [q, dn_6]
          split
          · exact Or.inl rfl
          · exact Or.inr rfl
      · rw [h3 c hc3]
        exact up_sn (F := up F 6 k (-1)) _ hc3
theorem stl_fc {n : Nat} : ∀ (m : Nat) (F : Rows), stl n m F 9 3 + nI (fc (stl n m F) n) = F 9 3 + nI (fc F n) ∧ fc (stl n m F) n ≤ fc F n
  | 0, F => ⟨rfl, Nat.le_refl _⟩
  | m + 1, F => by
    cases hc : cK F n with
    | none => rw [stl_none hc]; exact ⟨rfl, Nat.le_refl _⟩
    | some k =>
      rw [stl_some hc]
      obtain ⟨h1, h2⟩ := stl_fc (n := n) m (dn F k)
      obtain ⟨l, hl, hk⟩ := cK_fl hc
      obtain ⟨hkn, hk6⟩ := lk_some hk
      have e := fc_dn (F := F) hkn (by rw [hk6]; exact nI_m1 (by omega))
      refine ⟨?_, by omega⟩
      rw [h1, show dn F k 9 3 = F 9 3 + 1 from up_ss _ _ _ _, ← e, Int32.add_assoc, Int32.add_comm 1, nI_1]
theorem uh_fc (F : Rows) (n : Nat) : fc (uh F n) n + cnt (fun j => decide (j < n) && unh F j) n = fc F n := by
  unfold fc
  refine cnt_split (fun j hj => ?_)
  have e6 : uh F n 6 j = if (decide (j < n) && unh F j) then -1 else F 6 j := rfl
  rw [e6, decide_eq_true hj]
  unfold unh
  by_cases h : F 6 j = -1
  · rw [decide_eq_false (p := ¬ F 6 j = -1 ∧ ¬ held F j (F 9 0)) (fun q => q.1 h)]
    simp [h]
  · by_cases hh : held F j (F 9 0)
    · rw [decide_eq_false (p := ¬ F 6 j = -1 ∧ ¬ held F j (F 9 0)) (fun q => q.2 hh)]
      simp [h]
    · rw [decide_eq_true (p := ¬ F 6 j = -1 ∧ ¬ held F j (F 9 0)) ⟨h, hh⟩]
      simp [h]
abbrev wnF (F : Rows) (sp sd : Int32) : Rows := up (up F 9 0 sp) 9 1 sd
noncomputable abbrev wnE (n : Nat) (F : Rows) (sp sd : Int32) : Rows := stl n 10 (uh (wnF F sp sd) n)
theorem wn_S {n : Nat} {F : Rows} {sp sd : Int32} (h : (0 ≤ sp ∧ sp ≤ 30) ∧ (-5 ≤ sd ∧ sd ≤ 5)) : S_wind n F sp sd = (0, wnE n F sp sd 9 3 - F 9 3, wnE n F sp sd) := if_pos h
theorem alg_1 {a x y : Int32} : (a + x - y) - a = x - y := by
  apply Int32.toBitVec_inj.mp
  simp only [Int32.toBitVec_sub, Int32.toBitVec_add]
  bv_omega
theorem wn_fc (n : Nat) (F : Rows) (sp sd : Int32) : wnE n F sp sd 9 3 - F 9 3 = nI (fc F n) - nI (fc (wnE n F sp sd) n) ∧ fc (wnE n F sp sd) n ≤ fc F n := by
  obtain ⟨h1, h2⟩ := stl_fc (n := n) 10 (uh (wnF F sp sd) n)
  have h3 := uh_fc (wnF F sp sd) n
  have h4 : fc (wnF F sp sd) n = fc F n := rfl
  rw [h4] at h3
  have h5 : uh (wnF F sp sd) n 9 3 = F 9 3 + nI (cnt (fun j => decide (j < n) && unh (wnF F sp sd) j) n) := rfl
  have h6 : fc (wnE n F sp sd) n ≤ fc (uh (wnF F sp sd) n) n := h2
  refine ⟨?_, by omega⟩
  rw [h5, Int32.add_assoc, nI_add, Nat.add_comm, h3] at h1
  have h7 : wnE n F sp sd 9 3 = F 9 3 + nI (fc F n) - nI (fc (wnE n F sp sd) n) := by
    rw [← h1, Int32.add_sub_cancel]
  rw [h7]
  exact alg_1
theorem wn_tn {n p : Nat} {F : Rows} (hI : Inv n p F) (sp sd : Int32) : tn F n ≤ tn (wnE n F sp sd) n ∧ tn (wnE n F sp sd) n ≤ tn F n + (fc F n - fc (wnE n F sp sd) n) := by
  have h1 := (stl_fc (n := n) 10 (uh (wnF F sp sd) n)).2
  have h3 := uh_fc (wnF F sp sd) n
  have h4 : fc (wnF F sp sd) n = fc F n := rfl
  rw [h4] at h3
  have e3 : wnE n F sp sd 3 = uh (wnF F sp sd) n 3 := (stl_keep (n := n) 10 (uh (wnF F sp sd) n)).1 3 (by decide) (by decide)
  have e33 : ∀ j, uh (wnF F sp sd) n 3 j = if (decide (j < n) && unh (wnF F sp sd) j) then bi (6000 < pl (wnF F sp sd) j (wnF F sp sd 9 0)) else F 3 j := fun j => rfl
  unfold tn
  rw [e3]
  have hb : ∀ j, j < n → (decide (j < n) && unh (wnF F sp sd) j) = true → F 3 j = 0 := by
    intro j hj q
    have q2 : unh (wnF F sp sd) j = true := by
      cases h : unh (wnF F sp sd) j with
      | true => rfl
      | false => rw [h, Bool.and_false] at q; cases q
    unfold unh at q2
    have q3 := of_decide_eq_true q2
    exact ((hI.2.1 j hj).2.2.2.2.2.2.2 q3.1).1
  constructor
  · refine cnt_imp (fun j hj q => ?_)
    have q1 := of_decide_eq_true q
    refine decide_eq_true ?_
    rw [e33]
    split
    · rename_i z; exact absurd (hb j hj z) q1
    · exact q1
  · have : cnt (fun j => decide (¬ uh (wnF F sp sd) n 3 j = 0)) n ≤ cnt (fun j => decide (¬ F 3 j = 0)) n + cnt (fun j => decide (j < n) && unh (wnF F sp sd) j) n := by
      refine cnt_or (fun j hj q => ?_)
      have q1 := of_decide_eq_true q
      rw [e33] at q1
      split at q1
      · rename_i z; exact Or.inr z
      · exact Or.inl (decide_eq_true q1)
    have h1' : fc (wnE n F sp sd) n ≤ fc (uh (wnF F sp sd) n) n := h1
    omega
/-! side and lengths stay in their bounds -/
theorem In2_start : In2 0 F00 := ⟨by decide, fun k hk => absurd hk (Nat.not_lt_zero k)⟩
theorem In2_of {n n' : Nat} {F F' : Rows} (h : In2 n F) (h9 : F' 9 1 = F 9 1) (hk : ∀ k, k < n' → ¬ F' 6 k = -1 → k < n ∧ ¬ F 6 k = -1 ∧ F' 7 k = F 7 k) : In2 n' F' := by
  refine ⟨by rw [h9]; exact h.1, fun k hkn q => ?_⟩
  obtain ⟨a, b, c⟩ := hk k hkn q
  rw [c]; exact h.2 k a b
theorem In2_wind {n : Nat} {F : Rows} (h : In2 n F) {sp sd : Int32} (hd : -5 ≤ sd ∧ sd ≤ 5) : In2 n (wnE n F sp sd) := by
  obtain ⟨k1, k2, k3⟩ := stl_keep (n := n) 10 (uh (wnF F sp sd) n)
  refine ⟨?_, fun k hk q => ?_⟩
  · have e : wnE n F sp sd 9 1 = sd := (k3 1 (by decide)).trans rfl
    rw [e]; exact hd
  · have e7 : wnE n F sp sd 7 = F 7 := (k1 7 (by decide) (by decide)).trans rfl
    rw [e7]
    refine h.2 k hk (fun z => q ?_)
    rcases k2 k with y | y
    · exact y
    · show wnE n F sp sd 6 k = -1
      rw [show wnE n F sp sd 6 k = uh (wnF F sp sd) n 6 k from y]
      show (if (decide (k < n) && unh (wnF F sp sd) k) then (-1 : Int32) else F 6 k) = -1
      split
      · rfl
      · exact z
theorem wn_9 (n : Nat) (F : Rows) (sp sd : Int32) : wnE n F sp sd 9 0 = sp ∧ wnE n F sp sd 9 2 = F 9 2 := by
  obtain ⟨-, -, k3⟩ := stl_keep (n := n) 10 (uh (wnF F sp sd) n)
  exact ⟨(k3 0 (by decide)).trans rfl, (k3 2 (by decide)).trans rfl⟩
theorem wn_08 (n : Nat) (F : Rows) (sp sd : Int32) : wnE n F sp sd 0 = F 0 ∧ wnE n F sp sd 8 = F 8 := by
  obtain ⟨k1, -, -⟩ := stl_keep (n := n) 10 (uh (wnF F sp sd) n)
  exact ⟨(k1 0 (by decide) (by decide)).trans rfl, (k1 8 (by decide) (by decide)).trans rfl⟩
/-! who has a kite already: bits -/
def pm (F : Rows) : Nat → Nat
  | 0 => 0
  | i + 1 => if F 5 i = -1 then pm F i else pm F i ||| 2 ^ (F 5 i).toNatClampNeg
theorem pm_lt {n p : Nat} {F : Rows} (hI : Inv n p F) : ∀ {i : Nat}, i ≤ n → pm F i < 2 ^ 8
  | 0, _ => by show 0 < 2 ^ 8; decide
  | i + 1, hi => by
    have ih := pm_lt hI (i := i) (by omega)
    rw [pm]
    split
    · exact ih
    · rename_i h
      rcases (hI.2.1 i (by omega)).2.2.2.2.2.1 with q | ⟨j, hj, q⟩
      · exact absurd q h
      · have hp := hI.1.2
        rw [q, nI_clamp (by omega)]
        exact Nat.or_lt_two_pow ih (Nat.pow_lt_pow_right (by decide) (by omega))
theorem pm_bit {n p : Nat} {F : Rows} (hI : Inv n p F) {j : Nat} : ∀ {i : Nat}, i ≤ n → (pm F i).testBit j = true → ∃ i', i' < i ∧ F 5 i' = nI j
  | 0, _, h => by simp [pm] at h
  | i + 1, hi, h => by
    rw [pm] at h
    split at h
    · obtain ⟨i', h1, h2⟩ := pm_bit hI (i := i) (by omega) h
      exact ⟨i', by omega, h2⟩
    · rename_i hn
      rcases (hI.2.1 i (by omega)).2.2.2.2.2.1 with q | ⟨j2, hj, q⟩
      · exact absurd q hn
      · have hp := hI.1.2
        rw [q, nI_clamp (by omega), Nat.testBit_or, Bool.or_eq_true] at h
        rcases h with h | h
        · obtain ⟨i', h1, h2⟩ := pm_bit hI (i := i) (by omega) h
          exact ⟨i', by omega, h2⟩
        · rw [Nat.testBit_two_pow] at h
          have e := of_decide_eq_true h
          exact ⟨i, by omega, by rw [q, e]⟩
theorem pm_free {n p : Nat} {F : Rows} (hI : Inv n p F) {i j : Nat} (hi : i < n) (h : F 5 i = nI j) (hj : j < 8) : pm F i / 2 ^ j % 2 = 0 := by
  cases hb : (pm F i).testBit j with
  | true =>
    obtain ⟨i', h1, h2⟩ := pm_bit hI (by omega) hb
    have := hI.2.2.2.1.1 i' i (by omega) hi (h2.trans h.symm) (by rw [h2]; exact nI_m1 (by omega))
    omega
  | false =>
    rw [Nat.testBit_eq_decide_div_mod_eq] at hb
    have := of_decide_eq_false hb
    omega
theorem nI_or {a b : Nat} (ha : a < 2 ^ 31) (hb : b < 2 ^ 31) : nI a ||| nI b = nI (a ||| b) := by
  apply Int32.toBitVec_inj.mp
  apply BitVec.eq_of_toNat_eq
  rw [Int32.toBitVec_or, BitVec.toNat_or, pk_tn (by omega), pk_tn (by omega), pk_tn (Nat.lt_of_lt_of_le (Nat.or_lt_two_pow ha hb) (by decide))]
end
