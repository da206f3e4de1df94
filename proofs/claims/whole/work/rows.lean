section
-- ===== PART A: goes FIRST, ahead of the names: the tables' words, and 'selects' of the private methods out of them =====
/-- a private method of a class that the tables say can be made, by its rows of tables_1 -/
def lw_okq (q : MethodName × Nat) : Prop := (q.1.cls ≠ "java/lang/invoke/MethodHandle" ∧ q.1.cls ≠ "java/lang/invoke/VarHandle") ∧ Cond.instantiable q.1.cls q.2 ∈ tables_1 ∧ Cond.privateMethod q.1 ∈ tables_1 ∧ Cond.instanceMethod q.1 ∈ tables_1
theorem lw_p0 : lw_okq (⟨"BatchClasses", "isClass", "(I)Z"⟩, 16) := ⟨⟨by decide +kernel, by decide +kernel⟩, List.mem_of_getElem? (i := 13) (by decide +kernel), List.mem_of_getElem? (i := 144) (by decide +kernel), List.mem_of_getElem? (i := 145) (by decide +kernel)⟩
theorem lw_p1 : lw_okq (⟨"BatchClasses", "isRecord", "(I)Z"⟩, 16) := ⟨⟨by decide +kernel, by decide +kernel⟩, List.mem_of_getElem? (i := 13) (by decide +kernel), List.mem_of_getElem? (i := 148) (by decide +kernel), List.mem_of_getElem? (i := 149) (by decide +kernel)⟩
theorem lw_p2 : lw_okq (⟨"BatchClasses", "runOne", "(II)I"⟩, 16) := ⟨⟨by decide +kernel, by decide +kernel⟩, List.mem_of_getElem? (i := 13) (by decide +kernel), List.mem_of_getElem? (i := 152) (by decide +kernel), List.mem_of_getElem? (i := 153) (by decide +kernel)⟩
theorem lw_p3 : lw_okq (⟨"BatchClasses", "attempt", "(II)I"⟩, 16) := ⟨⟨by decide +kernel, by decide +kernel⟩, List.mem_of_getElem? (i := 13) (by decide +kernel), List.mem_of_getElem? (i := 156) (by decide +kernel), List.mem_of_getElem? (i := 157) (by decide +kernel)⟩
theorem lw_p4 : lw_okq (⟨"BatchClasses$Trial", "load", "([JIJ)V"⟩, 6) := ⟨⟨by decide +kernel, by decide +kernel⟩, List.mem_of_getElem? (i := 21) (by decide +kernel), List.mem_of_getElem? (i := 160) (by decide +kernel), List.mem_of_getElem? (i := 161) (by decide +kernel)⟩
theorem lw_p5 : lw_okq (⟨"BatchClasses$Trial", "perform", "(II)I"⟩, 6) := ⟨⟨by decide +kernel, by decide +kernel⟩, List.mem_of_getElem? (i := 21) (by decide +kernel), List.mem_of_getElem? (i := 164) (by decide +kernel), List.mem_of_getElem? (i := 165) (by decide +kernel)⟩
theorem lw_p6 : lw_okq (⟨"BatchClasses$Trial", "change", "(I)I"⟩, 6) := ⟨⟨by decide +kernel, by decide +kernel⟩, List.mem_of_getElem? (i := 21) (by decide +kernel), List.mem_of_getElem? (i := 168) (by decide +kernel), List.mem_of_getElem? (i := 169) (by decide +kernel)⟩
theorem lw_p7 : lw_okq (⟨"BatchClasses$Trial", "swap", "()V"⟩, 6) := ⟨⟨by decide +kernel, by decide +kernel⟩, List.mem_of_getElem? (i := 21) (by decide +kernel), List.mem_of_getElem? (i := 173) (by decide +kernel), List.mem_of_getElem? (i := 174) (by decide +kernel)⟩
theorem lw_p8 : lw_okq (⟨"BatchClasses", "keep", "(II)V"⟩, 16) := ⟨⟨by decide +kernel, by decide +kernel⟩, List.mem_of_getElem? (i := 13) (by decide +kernel), List.mem_of_getElem? (i := 177) (by decide +kernel), List.mem_of_getElem? (i := 178) (by decide +kernel)⟩
theorem lw_p9 : lw_okq (⟨"BatchClasses$Trial", "store", "([JI)V"⟩, 6) := ⟨⟨by decide +kernel, by decide +kernel⟩, List.mem_of_getElem? (i := 21) (by decide +kernel), List.mem_of_getElem? (i := 181) (by decide +kernel), List.mem_of_getElem? (i := 182) (by decide +kernel)⟩
theorem lw_p10 : lw_okq (⟨"BatchClasses$FailureLog", "note", "(III)V"⟩, 4) := ⟨⟨by decide +kernel, by decide +kernel⟩, List.mem_of_getElem? (i := 48) (by decide +kernel), List.mem_of_getElem? (i := 185) (by decide +kernel), List.mem_of_getElem? (i := 186) (by decide +kernel)⟩
theorem lw_p11 : lw_okq (⟨"BatchClasses$FailureLog", "look", "(II)I"⟩, 4) := ⟨⟨by decide +kernel, by decide +kernel⟩, List.mem_of_getElem? (i := 48) (by decide +kernel), List.mem_of_getElem? (i := 197) (by decide +kernel), List.mem_of_getElem? (i := 198) (by decide +kernel)⟩
theorem lw_p12 : lw_okq (⟨"BatchClasses$Trial", "countOthers", "([JI)I"⟩, 6) := ⟨⟨by decide +kernel, by decide +kernel⟩, List.mem_of_getElem? (i := 21) (by decide +kernel), List.mem_of_getElem? (i := 217) (by decide +kernel), List.mem_of_getElem? (i := 218) (by decide +kernel)⟩
theorem lw_p13 : lw_okq (⟨"java/lang/Throwable", "fillInStackTrace", "(I)Ljava/lang/Throwable;"⟩, 6) := ⟨⟨by decide +kernel, by decide +kernel⟩, List.mem_of_getElem? (i := 269) (by decide +kernel), List.mem_of_getElem? (i := 267) (by decide +kernel), List.mem_of_getElem? (i := 268) (by decide +kernel)⟩
theorem lw_p14 : lw_okq (⟨"BatchClassesModel", "goes", "(II)I"⟩, 19) := ⟨⟨by decide +kernel, by decide +kernel⟩, List.mem_of_getElem? (i := 329) (by decide +kernel), List.mem_of_getElem? (i := 413) (by decide +kernel), List.mem_of_getElem? (i := 414) (by decide +kernel)⟩
theorem lw_p15 : lw_okq (⟨"BatchClassesModel", "isClass", "(I)Z"⟩, 19) := ⟨⟨by decide +kernel, by decide +kernel⟩, List.mem_of_getElem? (i := 329) (by decide +kernel), List.mem_of_getElem? (i := 417) (by decide +kernel), List.mem_of_getElem? (i := 418) (by decide +kernel)⟩
def lw_privs_1 : List (MethodName × Nat) := [(⟨"BatchClasses", "isClass", "(I)Z"⟩, 16), (⟨"BatchClasses", "isRecord", "(I)Z"⟩, 16), (⟨"BatchClasses", "runOne", "(II)I"⟩, 16), (⟨"BatchClasses", "attempt", "(II)I"⟩, 16), (⟨"BatchClasses$Trial", "load", "([JIJ)V"⟩, 6), (⟨"BatchClasses$Trial", "perform", "(II)I"⟩, 6), (⟨"BatchClasses$Trial", "change", "(I)I"⟩, 6), (⟨"BatchClasses$Trial", "swap", "()V"⟩, 6), (⟨"BatchClasses", "keep", "(II)V"⟩, 16), (⟨"BatchClasses$Trial", "store", "([JI)V"⟩, 6), (⟨"BatchClasses$FailureLog", "note", "(III)V"⟩, 4), (⟨"BatchClasses$FailureLog", "look", "(II)I"⟩, 4), (⟨"BatchClasses$Trial", "countOthers", "([JI)I"⟩, 6), (⟨"java/lang/Throwable", "fillInStackTrace", "(I)Ljava/lang/Throwable;"⟩, 6), (⟨"BatchClassesModel", "goes", "(II)I"⟩, 19), (⟨"BatchClassesModel", "isClass", "(I)Z"⟩, 19)]
theorem lw_r1 : ∀ q ∈ lw_privs_1, lw_okq q := List.forall_mem_cons.mpr ⟨lw_p0, List.forall_mem_cons.mpr ⟨lw_p1, List.forall_mem_cons.mpr ⟨lw_p2, List.forall_mem_cons.mpr ⟨lw_p3, List.forall_mem_cons.mpr ⟨lw_p4, List.forall_mem_cons.mpr ⟨lw_p5, List.forall_mem_cons.mpr ⟨lw_p6, List.forall_mem_cons.mpr ⟨lw_p7, List.forall_mem_cons.mpr ⟨lw_p8, List.forall_mem_cons.mpr ⟨lw_p9, List.forall_mem_cons.mpr ⟨lw_p10, List.forall_mem_cons.mpr ⟨lw_p11, List.forall_mem_cons.mpr ⟨lw_p12, List.forall_mem_cons.mpr ⟨lw_p13, List.forall_mem_cons.mpr ⟨lw_p14, List.forall_mem_cons.mpr ⟨lw_p15, fun _ h => absurd h List.not_mem_nil⟩⟩⟩⟩⟩⟩⟩⟩⟩⟩⟩⟩⟩⟩⟩⟩
theorem lw_p16 : lw_okq (⟨"BatchClassesModel", "isRecord", "(I)Z"⟩, 19) := ⟨⟨by decide +kernel, by decide +kernel⟩, List.mem_of_getElem? (i := 329) (by decide +kernel), List.mem_of_getElem? (i := 421) (by decide +kernel), List.mem_of_getElem? (i := 422) (by decide +kernel)⟩
theorem lw_p17 : lw_okq (⟨"BatchClassesModel", "reckon", "(I)V"⟩, 19) := ⟨⟨by decide +kernel, by decide +kernel⟩, List.mem_of_getElem? (i := 329) (by decide +kernel), List.mem_of_getElem? (i := 425) (by decide +kernel), List.mem_of_getElem? (i := 426) (by decide +kernel)⟩
def lw_privs_2 : List (MethodName × Nat) := [(⟨"BatchClassesModel", "isRecord", "(I)Z"⟩, 19), (⟨"BatchClassesModel", "reckon", "(I)V"⟩, 19)]
theorem lw_r2 : ∀ q ∈ lw_privs_2, lw_okq q := List.forall_mem_cons.mpr ⟨lw_p16, List.forall_mem_cons.mpr ⟨lw_p17, fun _ h => absurd h List.not_mem_nil⟩⟩
def lw_privs : List (MethodName × Nat) := lw_privs_1 ++ (lw_privs_2)
def lw_tbl : List Cond := k2_sels lw_privs ++ tables_1
theorem lw_privs_ok : ∀ q ∈ lw_privs, lw_okq q := by
  show ∀ q ∈ lw_privs_1 ++ (lw_privs_2), lw_okq q
  exact List.forall_mem_append.mpr ⟨lw_r1, lw_r2⟩

/-! ===== BEGIN words of one list among another's, by their places ===== -/
theorem goodIn_r {big : List Cond} (ws : List Cond) (ps : List Nat) (hp : ws = ps.filterMap (fun i => big[i]?)) (h : ws.all goodWord = true) : GoodIn big ws := by
  intro w hw
  have h1 := List.all_eq_true.mp h w hw
  rw [hp] at hw
  obtain ⟨i, -, hi⟩ := List.mem_filterMap.mp hw
  have hm : w ∈ big := by first | exact List.mem_of_getElem? hi | exact List.getElem?_mem hi
  exact ⟨hm, good_of_word h1⟩
theorem goodIn_app {big a b : List Cond} (ha : GoodIn big a) (hb : GoodIn big b) : GoodIn big (a ++ b) := fun w h => (List.mem_append.mp h).elim (ha w) (hb w)
theorem goodIn_ca {big a b : List Cond} {c : Cond} (ha : GoodIn big (c :: a)) (hb : GoodIn big b) : GoodIn big (c :: (a ++ b)) := fun w h => (List.mem_cons.mp h).elim (fun e => ha w (List.mem_cons.mpr (Or.inl e))) (fun h => (List.mem_append.mp h).elim (fun h => ha w (List.mem_cons.mpr (Or.inr h))) (hb w))
theorem goodIn_sub {big ws : List Cond} (hm : ∀ w ∈ ws, w ∈ big) (h : ws.all goodWord = true) : GoodIn big ws := fun w hw => ⟨hm w hw, good_of_word (List.all_eq_true.mp h w hw)⟩
/-! ===== END ===== -/

/-! ===== BEGIN exceptions that leave a method, and their catching by the caller (launches without stack traces) ===== -/
section VXA
/-! The laws vx_back, vx_callV, vx_callS, vx_callSW, vx_throw0, vx_throwS follow proofs of the library, with one case more: JvmDerived/Free/Laws.lean (Back.of_free), Shelf42/LK1.lean (callV, callS), Shelf/KitTraced.lean (throwNew0V, throwNewS). -/
/-- where a method has thrown q: the class by its name, the cell, what was written, the world -/
def vx_T (XC : String → State → State → Prop) (st : State) (q : Addr) (t : State) (mc ms : Nat) (free : Addr → Prop) : Prop :=
  ∃ (E : String) (ce : Cell) (L : List Loc), XC E st t ∧ t.heap[q]? = some ce ∧ ce.vm = .none ∧ st.vm.findClass E = some ce.cls ∧ st.WarmedH t.vm ∧ st.sameButNew ({ t with vm := st.vm } : State) L mc ms ∧ ∀ z ∈ L, free z.base
def vx_Q (Qc : Array Value → State → Outcome → State → Prop) (XC : String → State → State → Prop) (mc ms : Nat) (free : Addr → Prop) : Array Value → State → Outcome → State → Prop := fun a st o t =>
  (Qc a st o t ∧ ∃ L, FrameEnd st o t L mc ms ∧ ∀ q ∈ L, free q.base) ∨ ∃ q, o = .threw q ∧ vx_T XC st q t mc ms free
/-- a callee that returns or throws -/
def vx_Met (l : Launch) (y : MethodName) (ws : List Cond) (rm : Room) (Pc : Array Value → State → Prop) (Qc : Array Value → State → Outcome → State → Prop) (XC : String → State → State → Prop) (mc ms : Nat) (free : Addr → Prop) : Prop :=
  MetFree l y (headSpec ws rm) Pc (fun _ _ _ _ _ => True) (vx_Q Qc XC mc ms free)
def vx_Post (XC : String → State → State → Prop) (mc ms : Nat) (free : Addr → Prop) : Pt → Array Value → Addr → Pt → Prop := fun A a q B =>
  ∃ (g : JFrame) (mk : MethodId) (t : State) (L : List Loc) (E : String) (ce : Cell), B.U.heap = t.heap ∧ B.U.vm = t.vm ∧ XC E (A.U.calling g mk a) t ∧ t.heap[q]? = some ce ∧ ce.vm = .none ∧ A.U.vm.findClass E = some ce.cls ∧ B.locs = A.locs ++ L ∧ (∀ z ∈ L, free z.base) ∧ B.cells = A.cells + mc ∧ B.slots = A.slots + ms
def vx_Back (l : Launch) (R : Room) (p : Program) (e : Env) (below : List Frame) (s : State) (sargs : Array Value) (y : MethodName) (len W9 : Nat)
    (Pre : Pt → Array Value → Prop) (Post : Pt → Array Value → Option Value → Pt → Prop) (PostX : Pt → Array Value → Addr → Pt → Prop) : Prop :=
  ∀ (m : MethodId) (meth : Method) (c : Code) (A : Pt) (g : JFrame) (ig : Instr) (mk : MethodId) (a : Array Value),
    Stand p l e R s m sargs below meth c A.U A.locs A.cells A.slots → g.method = m → g.locals.size = c.maxLocals → decode c.code g.pc = .ok (ig, len) →
    2 * g.monitorRoom + (g.stack.map fun v => v.category).sum ≤ W9 → A.U.methodNamed? y = some mk → Pre A a →
    (∃ (v : Option Value) (B : Pt), Stand p l e R s m sargs below meth c B.U B.locs B.cells B.slots ∧ Post A a v B ∧
      Steps p.tables e below (doInvoke e (A.U.setTop g) [] mk a).1 (B.U.setTop { g with pc := g.pc + len, stack := v.toList ++ g.stack })) ∨
    (∃ (q : Addr) (B : Pt), Stand p l e R s m sargs below meth c B.U B.locs B.cells B.slots ∧ PostX A a q B ∧
      Steps p.tables e below (doInvoke e (A.U.setTop g) [] mk a).1 ((B.U.setTop g).pushFrame (.throwing q)))
section Payer
variable {l : Launch} {R : Room} {p : Program} {e : Env} {below : List Frame} {s : State} {sargs : Array Value} {y : MethodName} {len W9 : Nat}
theorem vx_back {ws : List Cond} {rm : Room} {Pc : Array Value → State → Prop} {Qc : Array Value → State → Outcome → State → Prop} {XC : String → State → State → Prop} {mc ms : Nat} {free : Addr → Prop} {bytes : ByteArray} {maxL : Nat} {ret : Option FieldType}
    (hM : vx_Met l y ws rm Pc Qc XC mc ms free) (hblind : FrameBlind Pc) (hrc : rm.cells = mc) (hrs : rm.slots = ms)
    (hframes : rm.frames + 1 ≤ R.frames) (hlocals : W9 + (maxL + 11) + rm.locals ≤ R.locals)
    (hws : ∀ w ∈ ws, ∀ a' U, s.WarmedH U.vm → w.before a' U = true) (hcode : Cond.code y bytes maxL ret ∈ ws) (hinit : ∀ a' U, s.WarmedH U.vm → (Cond.initialized y.cls).before a' U = true) :
    vx_Back l R p e below s sargs y len W9 (PreOf R mc ms Pc) (PostOf Qc mc ms free) (vx_Post XC mc ms free) := by
  intro m meth c A g ig mk a X hg hsize hdg hW hn hp
  have h1 : (headSpec ws rm).pre.before a A.U = true := atoms_intro fun w hw => hws w hw _ _ X.warmed
  have h2 : (Cond.code y bytes maxL ret).before a A.U = true := hws _ hcode _ _ X.warmed
  have h3 : (Cond.initialized y.cls).before a A.U = true := hinit _ _ X.warmed
  have h4 : A.cells + (headSpec ws rm).room.cells ≤ R.cells := by rw [show (headSpec ws rm).room.cells = mc from hrc]; exact hp.1
  have h5 : A.slots + (headSpec ws rm).room.slots ≤ R.slots := by rw [show (headSpec ws rm).room.slots = ms from hrs]; exact hp.2.1
  have hPc : Pc a (A.U.calling g mk a) := hblind _ _ _ _ hp.2.2
  obtain ⟨U, Ls, c0, s0⟩ := A
  dsimp only [Pt.U, Pt.locs, Pt.cells, Pt.slots] at h1 h2 h3 h4 h5 X hn hPc ⊢
  obtain ⟨methY, cY, hmY, hcY, -, hlY, -, -, -, -⟩ := Cond.code_spec hn h2
  obtain ⟨kY, hkY, -⟩ := className_of_methodNamed hn
  have hinitY : kY.init = .initialized := Cond.initialized_spec (findClass_of_methodNamed hn) hkY h3
  have h : At U g.method c below := by rw [hg]; exact X.here
  have hlocals9 : W9 + (maxL + 11) + (headSpec ws rm).room.locals ≤ R.locals := hlocals
  have happ : (headSpec ws rm).appliesLoose y e.platform (U.calling g mk a) = true :=
    Spec.appliesLoose_calling (g := g) h hdg hn hkY hinitY
      (X.room_calling (g := g) (R' := (headSpec ws rm).room) hsize hmY hcY hframes (by rw [hlY]; omega) h4 h5) h1
  obtain ⟨mid, hmid⟩ := h.above
  have hfr : (U.setTop g).frames = (.java g :: mid) ++ below := by rw [State.frames_setTop' g h.top, hmid]; rfl
  obtain ⟨o, s₂, hsteps, -, hend, hq⟩ := Steps.callFree hM p X.admits X.cas X.clock (acts := []) hfr happ hPc trivial
  have hq' : vx_Q Qc XC mc ms free a (U.calling g mk a) o s₂ := hq
  rw [State.frames_setTop' g h.top] at hend
  obtain ⟨g₀, hg0⟩ := Option.isSome_iff_exists.mp h.top
  obtain ⟨r, hr⟩ := State.topJava?_eq_some.mp hg0
  have hr' : (({ U with heap := s₂.heap, slotsUsed := s₂.slotsUsed } : State).setVm s₂.vm).frames = .java g₀ :: r := hr
  rcases hq' with ⟨hqc, L, hfe, hL⟩ | ⟨q, rfl, E, ce, L, hx, hce, hcv, hcl, hW₂, hsm, hL⟩
  · obtain ⟨⟨v, rfl⟩, hW₂, e2, q2, q3, q4, q5, q6⟩ := id hfe
    have e3 : s₂ = ({ (U.calling g mk a).setFrames s₂.frames with heap := s₂.heap, slotsUsed := s₂.slotsUsed } : State).setVm s₂.vm := by
      have : s₂ = ({ s₂ with vm := (U.calling g mk a).vm } : State).setVm s₂.vm := rfl
      rw [e2] at this
      exact this
    obtain ⟨c₂, i₂, len₂, hc₂, hd₂, hf₂⟩ := hend
    have hW' : U.WarmedH s₂.vm := hW₂
    have hcc : c₂ = c := by
      have h1 : s₂.code? g.method = U.code? g.method := by
        rw [State.code?_eq, State.code?_eq, hW'.alike.method?]
      exact Option.some.inj (hc₂.symm.trans (h1.trans h.code))
    subst hcc
    have hlen : len₂ = len := by rw [hdg] at hd₂; cases hd₂; rfl
    subst hlen
    have hs₂ : s₂ = (({ U with heap := s₂.heap, slotsUsed := s₂.slotsUsed } : State).setVm s₂.vm).setTop { g with pc := g.pc + len₂, stack := v.toList ++ g.stack } := by
      refine e3.trans ?_
      rw [hf₂, State.calling_eq h.top, State.setFrames_setFrames, State.setTop_of_frames _ hr', hr]
      rfl
    have hsame : U.sameButNew ({ U with heap := s₂.heap, slotsUsed := s₂.slotsUsed } : State) L mc ms := by
      refine ⟨?_, q2, q3, q4, q5, q6⟩
      obtain ⟨t, ht, -⟩ := State.frames_cons hr
      show ({ U with heap := s₂.heap, slotsUsed := s₂.slotsUsed } : State) = { U.setFrames U.frames with heap := s₂.heap, slotsUsed := s₂.slotsUsed }
      rw [State.setFrames_self ht]
    subst hg
    refine Or.inl ⟨v, ⟨(({ U with heap := s₂.heap, slotsUsed := s₂.slotsUsed } : State).setVm s₂.vm), Ls ++ L, c0 + mc, s0 + ms⟩,
      ⟨X.admits, X.cas, X.clock, X.frames, X.room, X.hears, X.method, X.code, (X.here.setHeapUsed s₂.heap s₂.slotsUsed).setVm hW'.alike, X.tail, State.WarmedH.trans X.warmed hW', X.limits, X.bytes, X.same.trans (hsame.setVm s.vm)⟩,
      ⟨g, mk, s₂, L, rfl, rfl, hqc, rfl, hL, rfl, rfl⟩, ?_⟩
    show Steps p.tables e below _ ((({ U with heap := s₂.heap, slotsUsed := s₂.slotsUsed } : State).setVm s₂.vm).setTop { g with pc := g.pc + len₂, stack := v.toList ++ g.stack })
    rw [← hs₂]
    exact hsteps
  · obtain ⟨e2, q2, q3, q4, q5, q6⟩ := id hsm
    have e3 : s₂ = ({ (U.calling g mk a).setFrames s₂.frames with heap := s₂.heap, slotsUsed := s₂.slotsUsed } : State).setVm s₂.vm := by
      have : s₂ = ({ s₂ with vm := (U.calling g mk a).vm } : State).setVm s₂.vm := rfl
      rw [e2] at this
      exact this
    have hf₂ : s₂.frames = .throwing q :: .java g :: U.frames.tail := hend
    have hW' : U.WarmedH s₂.vm := hW₂
    have hs₂ : s₂ = ((({ U with heap := s₂.heap, slotsUsed := s₂.slotsUsed } : State).setVm s₂.vm).setTop g).pushFrame (.throwing q) := by
      refine e3.trans ?_
      rw [hf₂, State.calling_eq h.top, State.setFrames_setFrames, State.pushFrame, State.frames_setTop _ hr', State.setTop_of_frames _ hr', State.setFrames_setFrames, hr]
      rfl
    have hsame : U.sameButNew ({ U with heap := s₂.heap, slotsUsed := s₂.slotsUsed } : State) L mc ms := by
      refine ⟨?_, q2, q3, q4, q5, q6⟩
      obtain ⟨t, ht, -⟩ := State.frames_cons hr
      show ({ U with heap := s₂.heap, slotsUsed := s₂.slotsUsed } : State) = { U.setFrames U.frames with heap := s₂.heap, slotsUsed := s₂.slotsUsed }
      rw [State.setFrames_self ht]
    subst hg
    refine Or.inr ⟨q, ⟨(({ U with heap := s₂.heap, slotsUsed := s₂.slotsUsed } : State).setVm s₂.vm), Ls ++ L, c0 + mc, s0 + ms⟩,
      ⟨X.admits, X.cas, X.clock, X.frames, X.room, X.hears, X.method, X.code, (X.here.setHeapUsed s₂.heap s₂.slotsUsed).setVm hW'.alike, X.tail, State.WarmedH.trans X.warmed hW', X.limits, X.bytes, X.same.trans (hsame.setVm s.vm)⟩,
      ⟨g, mk, s₂, L, E, ce, rfl, rfl, hx, hce, hcv, hcl, rfl, hL, rfl, rfl⟩, ?_⟩
    show Steps p.tables e below _ (((({ U with heap := s₂.heap, slotsUsed := s₂.slotsUsed } : State).setVm s₂.vm).setTop g).pushFrame (.throwing q))
    rw [← hs₂]
    exact hsteps
end Payer
section Calls
variable {p : Program} {l : Launch} {e : Env} {R : Room} {s : State} {m : MethodId} {args : Array Value} {below : List Frame} {meth : Method} {c : Code} {T : State} {locs : List Loc} {cells slots : Nat}
theorem vx_callV (X : Stand p l e R s m args below meth c T locs cells slots) (hexec : p.tables.exec = Jvm.exec) {own C : String} {index : Nat} {y : MethodName} {bytes : ByteArray} {maxL : Nat} {ret : Option FieldType}
    (hown : s.vm.findClass own = some m.cls) (hlink : (Cond.methodLink own index y).before args s = true) (hinst : (Cond.instanceMethod y).before args s = true) (hsel : (Cond.selects C y y).before args s = true)
    (hcode : (Cond.code y bytes maxL ret).before args s = true) (hy : y.cls ≠ "java/lang/invoke/MethodHandle" ∧ y.cls ≠ "java/lang/invoke/VarHandle")
    {W9 : Nat} {Pre : Pt → Array Value → Prop} {Post : Pt → Array Value → Option Value → Pt → Prop} {PostX : Pt → Array Value → Addr → Pt → Prop} (hK : vx_Back l R p e below s args y 3 W9 Pre Post PostX)
    {b : Addr} {cellB : Cell} (hcell : T.heap[b]? = some cellB) (hobj : cellB.vm.isStatics = false) (hcls : s.vm.findClass C = some cellB.cls)
    {g : JFrame} (hg : g.method = m) (hsize : g.locals.size = c.maxLocals) {argsL rest : List Value} (hlen : ∀ sig, parseMethodDescriptor y.desc = some sig → argsL.length = sig.parameters.length)
    (hstack : g.stack = argsL.reverse ++ .ref b :: rest) (hW : 2 * g.monitorRoom + (rest.map fun v => v.category).sum ≤ W9) (hdg : decode c.code g.pc = .ok (.invokevirtual index, 3))
    (hpre : ∀ vm₁, s.WarmedH vm₁ → Pre ⟨T.setVm vm₁, locs, cells, slots⟩ (Value.ref b :: argsL).toArray) :
    (∃ (v : Option Value) (vm₁ : Vm) (B : Pt), s.WarmedH vm₁ ∧ Stand p l e R s m args below meth c B.U B.locs B.cells B.slots ∧ Post ⟨T.setVm vm₁, locs, cells, slots⟩ (Value.ref b :: argsL).toArray v B ∧
      ∀ target, Steps p.tables e below (B.U.setTop { g with pc := g.pc + 3, stack := v.toList ++ rest }) target → Steps p.tables e below (T.setTop g) target) ∨
    (∃ (q : Addr) (vm₁ : Vm) (B : Pt), s.WarmedH vm₁ ∧ Stand p l e R s m args below meth c B.U B.locs B.cells B.slots ∧ PostX ⟨T.setVm vm₁, locs, cells, slots⟩ (Value.ref b :: argsL).toArray q B ∧
      Steps p.tables e below (T.setTop g) ((B.U.setTop { g with stack := rest }).pushFrame (.throwing q))) := by
  obtain ⟨mk, methM, hnamed, hmethM, hstM, habM⟩ := Cond.instanceMethod_spec hinst
  obtain ⟨methM', cM, hmethM', -, -, -, -, -, -, hsigM⟩ := Cond.code_spec hnamed hcode
  cases hmethM.symm.trans hmethM'
  obtain ⟨c2, r2, m2, q1, q2, q3, q4, kP, hkP, hkPi⟩ := Cond.selects_spec hsel
  cases hcls.symm.trans q1
  cases (State.methodFound?_of_named hnamed hy).symm.trans q2
  cases hnamed.symm.trans q3
  have hselP : selectMethod e.platform s.vm cellB.cls mk = .method mk := by rw [Launch.admits_selectMethod X.admits]; exact q4
  obtain ⟨vm₁, X₁, hstep₁⟩ := X.invokevirtual hexec hown hlink hnamed hmethM hstM hkP hkPi hy (a := b) (cell := cellB) hcell
    (fun z h => by rw [h] at hobj; cases hobj) hselP hmethM habM hkP hkPi (g := g) hg (argsL := argsL) (rest := rest) (hlen _ hsigM) hstack hdg
  rcases hK m meth c ⟨T.setVm vm₁, locs, cells, slots⟩ { g with stack := rest } (.invokevirtual index) mk (Value.ref b :: argsL).toArray X₁ hg hsize hdg hW (X₁.named hnamed) (hpre vm₁ X₁.warmed) with ⟨v, B, X', hpost, hsteps⟩ | ⟨q, B, X', hpost, hsteps⟩
  · exact Or.inl ⟨v, vm₁, B, X₁.warmed, X', hpost, fun target h => hstep₁ _ fun acts => by rw [doInvoke_state]; exact hsteps.trans h⟩
  · exact Or.inr ⟨q, vm₁, B, X₁.warmed, X', hpost, hstep₁ _ fun acts => by rw [doInvoke_state]; exact hsteps⟩
theorem vx_callS (X : Stand p l e R s m args below meth c T locs cells slots) (hexec : p.tables.exec = Jvm.exec) {own : String} {index : Nat} {y : MethodName} {bytes : ByteArray} {maxL : Nat} {ret : Option FieldType}
    (hown : s.vm.findClass own = some m.cls) (hlink : (Cond.methodLink own index y).before args s = true) (hstat : (Cond.static y).before args s = true) (hinit : (Cond.initialized y.cls).before args s = true)
    (hcode : (Cond.code y bytes maxL ret).before args s = true) (hy : y.cls ≠ "java/lang/invoke/MethodHandle" ∧ y.cls ≠ "java/lang/invoke/VarHandle")
    {W9 : Nat} {Pre : Pt → Array Value → Prop} {Post : Pt → Array Value → Option Value → Pt → Prop} {PostX : Pt → Array Value → Addr → Pt → Prop} (hK : vx_Back l R p e below s args y 3 W9 Pre Post PostX)
    {g : JFrame} (hg : g.method = m) (hsize : g.locals.size = c.maxLocals) {argsL rest : List Value} (hlen : ∀ sig, parseMethodDescriptor y.desc = some sig → argsL.length = sig.parameters.length)
    (hstack : g.stack = argsL.reverse ++ rest) (hW : 2 * g.monitorRoom + (rest.map fun v => v.category).sum ≤ W9) (hdg : decode c.code g.pc = .ok (.invokestatic index, 3))
    (hpre : ∀ vm₁, s.WarmedH vm₁ → Pre ⟨T.setVm vm₁, locs, cells, slots⟩ argsL.toArray) :
    (∃ (v : Option Value) (vm₁ : Vm) (B : Pt), s.WarmedH vm₁ ∧ Stand p l e R s m args below meth c B.U B.locs B.cells B.slots ∧ Post ⟨T.setVm vm₁, locs, cells, slots⟩ argsL.toArray v B ∧
      ∀ target, Steps p.tables e below (B.U.setTop { g with pc := g.pc + 3, stack := v.toList ++ rest }) target → Steps p.tables e below (T.setTop g) target) ∨
    (∃ (q : Addr) (vm₁ : Vm) (B : Pt), s.WarmedH vm₁ ∧ Stand p l e R s m args below meth c B.U B.locs B.cells B.slots ∧ PostX ⟨T.setVm vm₁, locs, cells, slots⟩ argsL.toArray q B ∧
      Steps p.tables e below (T.setTop g) ((B.U.setTop { g with stack := rest }).pushFrame (.throwing q))) := by
  obtain ⟨mk, hnamed⟩ := Cond.code_named hcode
  obtain ⟨methM, cM, hmethM, -, -, -, -, -, -, hsigM⟩ := Cond.code_spec hnamed hcode
  have hstatic : methM.isStatic = true := Cond.static_spec hnamed hmethM hstat
  obtain ⟨kP, hkP, -⟩ := className_of_methodNamed hnamed
  have hinitP : kP.init = .initialized := Cond.initialized_spec (findClass_of_methodNamed hnamed) hkP hinit
  obtain ⟨vm₁, X₁, hstep₁⟩ := X.invokestatic hexec hown hlink hnamed hmethM hstatic hkP hinitP hy (g := g) hg (argsL := argsL) (rest := rest) (hlen _ hsigM) hstack hdg
  rcases hK m meth c ⟨T.setVm vm₁, locs, cells, slots⟩ { g with stack := rest } (.invokestatic index) mk argsL.toArray X₁ hg hsize hdg hW (X₁.named hnamed) (hpre vm₁ X₁.warmed) with ⟨v, B, X', hpost, hsteps⟩ | ⟨q, B, X', hpost, hsteps⟩
  · exact Or.inl ⟨v, vm₁, B, X₁.warmed, X', hpost, fun target h => hstep₁ _ fun acts => by rw [doInvoke_state]; exact hsteps.trans h⟩
  · exact Or.inr ⟨q, vm₁, B, X₁.warmed, X', hpost, hstep₁ _ fun acts => by rw [doInvoke_state]; exact hsteps⟩
end Calls
theorem vx_cls {s : State} {T : State} {vm₁ : Vm} {E : String} {k : ClassId} (hW : s.WarmedH vm₁) (h : (T.setVm vm₁).vm.findClass E = some k) : s.vm.findClass E = some k := by
  have h1 : vm₁.findClass E = some k := h
  rw [hW.alike.findClass] at h1
  exact h1
/-- the method's frame g, with q thrown over it -/
def vx_W (p : Program) (l : Launch) (e : Env) (R : Room) (s : State) (m : MethodId) (args : Array Value) (below : List Frame) (meth : Method) (c : Code) (H : Heap) (locs : List Loc) (cells slots : Nat) (Q : State → Prop) (g : JFrame) (q : Addr) : Prop :=
  ∀ T : State, T.heap = H → Stand p l e R s m args below meth c T locs cells slots → ∃ t, Steps p.tables e below ((T.setTop g).pushFrame (.throwing q)) t ∧ Q t
def vx_Run (p : Program) (l : Launch) (e : Env) (R : Room) (s : State) (m : MethodId) (args : Array Value) (below : List Frame) (meth : Method) (c : Code) (H : Heap) (locs : List Loc) (cells slots mc ms : Nat) (g : JFrame) (rest : List Value) (Qa : State → Outcome → State → Prop) (XC : String → State → State → Prop) (free : Addr → Prop) : Prop :=
  ∀ T : State, T.heap = H → Stand p l e R s m args below meth c T locs cells slots →
    (∃ (v : Option Value) (st₀ t T' : State) (L : List Loc), st₀.heap = H ∧ Stand p l e R s m args below meth c T' (locs ++ L) (cells + mc) (slots + ms) ∧ (∀ q ∈ L, free q.base) ∧ T'.heap = t.heap ∧ T'.vm = t.vm ∧ Qa st₀ (.returned v) t ∧
      Goes p e below T g T' { g with pc := g.pc + 3, stack := v.toList ++ rest }) ∨
    (∃ (q : Addr) (st₀ t T' : State) (L : List Loc) (E : String) (ce : Cell), st₀.heap = H ∧ Stand p l e R s m args below meth c T' (locs ++ L) (cells + mc) (slots + ms) ∧ (∀ z ∈ L, free z.base) ∧ T'.heap = t.heap ∧ T'.vm = t.vm ∧ XC E st₀ t ∧ t.heap[q]? = some ce ∧ ce.vm = .none ∧ s.vm.findClass E = some ce.cls ∧
      Steps p.tables e below (T.setTop g) ((T'.setTop { g with stack := rest }).pushFrame (.throwing q)))
def vx_X {S : Type} (px : S → Prop) (B : String → S → State → Prop) (A : Nat → Prop) : String → State → State → Prop := fun E st t => ∃ u : S, px u ∧ B E u t ∧ va_F A st t
section Runs
variable {p : Program} {l : Launch} {e : Env} {R : Room} {s : State} {m : MethodId} {args : Array Value} {below : List Frame} {meth : Method} {c : Code} {H : Heap} {locs : List Loc} {cells slots : Nat}
variable {y : MethodName} {bytes cc : ByteArray} {maxL nL mc ms n index : Nat} {ret : Option FieldType} {ws : List Cond} {rm : Room} {Pc : Array Value → State → Prop} {Qc : Array Value → State → Outcome → State → Prop} {XC : String → State → State → Prop} {free : Addr → Prop} {Ts : List Cond} {own C : String} {b : Addr} {As rest : List Value} {g : JFrame}
theorem vx_callBack (cb : CallB R s args own index y bytes maxL ret ws rm mc ms n) (hM : vx_Met l y ws rm Pc Qc XC mc ms free) (hbl : FrameBlind Pc) : vx_Back l R p e below s args y 3 8 (PreOf R mc ms Pc) (PostOf Qc mc ms free) (vx_Post XC mc ms free) := by
  obtain ⟨hrc, hrs, hfr, hlo, hws, hcw, -, hini, -⟩ := cb
  exact vx_back (bytes := bytes) (maxL := maxL) (ret := ret) hM hbl hrc hrs hfr hlo hws hcw (fun a' U hW => word_at hW (Or.inl (by first | rfl | simp [Cond.onTables, Cond.keeps, Cond.steady])) hini)
theorem vx_runV (S : CallFix p m c cc nL s args Ts own) (hM : vx_Met l y ws rm Pc Qc XC mc ms free) (cw : CallW R s args own C index y bytes maxL ret ws rm mc ms n) (hp : PreV s H C b Pc As)
    (hg : g.method = m) (hn : As.length = n) (hsize : g.locals.size = nL) (hstack : g.stack = As.reverse ++ .ref b :: rest) (hW : 2 * g.monitorRoom + (rest.map fun v => v.category).sum ≤ 8) (hdg : decode cc g.pc = .ok (.invokevirtual index, 3)) (hf : cells + mc ≤ R.cells ∧ slots + ms ≤ R.slots) :
    vx_Run p l e R s m args below meth c H locs cells slots mc ms g rest (Qc (Value.ref b :: As).toArray) XC free := by
  have hK : vx_Back l R p e below s args y 3 8 (PreOf R mc ms Pc) (PostOf Qc mc ms free) (vx_Post XC mc ms free) := vx_callBack cw.1 hM hp.1
  obtain ⟨⟨-, -, -, -, -, -, hcode, -, hy, hlen, hl⟩, hin, hse⟩ := cw
  obtain ⟨hx, hb, hml, ho, -⟩ := S
  obtain ⟨-, ⟨cellB, hcB, hoB, hclB⟩, hPc⟩ := hp
  intro T hT X
  rcases vx_callV X hx (C := C) (bytes := bytes) (maxL := maxL) (ret := ret) ho hl hin hse hcode hy hK (by rw [hT]; exact hcB) hoB hclB hg (hsize.trans hml.symm) (argsL := As) (rest := rest) (fun sig h => hn.trans (hlen sig h)) hstack hW (by rw [hb]; exact hdg)
    (fun vm₁ hW₁ => ⟨hf.1, hf.2, hPc (T.setVm vm₁) hT hW₁⟩) with ⟨v, vm₁, ⟨U', l2, c2, s2⟩, hW₁, X', ⟨g', mk, t, L, e1, e2, hq, h1, hL, h2, h3⟩, st⟩ | ⟨q, vm₁, ⟨U', l2, c2, s2⟩, hW₁, X', ⟨g', mk, t, L, E, ce, e1, e2, hq, hce, hcv, hcl, h1, hL, h2, h3⟩, st⟩
  · dsimp only [Pt.U, Pt.locs, Pt.cells, Pt.slots] at X' e1 e2 h1 h2 h3 st
    subst h1; subst h2; subst h3
    exact Or.inl ⟨v, (T.setVm vm₁).calling g' mk (Value.ref b :: As).toArray, t, U', L, hT, X', hL, e1, e2, hq, st⟩
  · dsimp only [Pt.U, Pt.locs, Pt.cells, Pt.slots] at X' e1 e2 h1 h2 h3 st hcl
    subst h1; subst h2; subst h3
    exact Or.inr ⟨q, (T.setVm vm₁).calling g' mk (Value.ref b :: As).toArray, t, U', L, E, ce, hT, X', hL, e1, e2, hq, hce, hcv, vx_cls hW₁ hcl, st⟩
theorem vx_runS (S : CallFix p m c cc nL s args Ts own) (hM : vx_Met l y ws rm Pc Qc XC mc ms free) (cw : CallB R s args own index y bytes maxL ret ws rm mc ms n ∧ (Cond.static y).before args s = true) (hp : PreS s H Pc As)
    (hg : g.method = m) (hn : As.length = n) (hsize : g.locals.size = nL) (hstack : g.stack = As.reverse ++ rest) (hW : 2 * g.monitorRoom + (rest.map fun v => v.category).sum ≤ 8) (hdg : decode cc g.pc = .ok (.invokestatic index, 3)) (hf : cells + mc ≤ R.cells ∧ slots + ms ≤ R.slots) :
    vx_Run p l e R s m args below meth c H locs cells slots mc ms g rest (Qc As.toArray) XC free := by
  have hK : vx_Back l R p e below s args y 3 8 (PreOf R mc ms Pc) (PostOf Qc mc ms free) (vx_Post XC mc ms free) := vx_callBack cw.1 hM hp.1
  obtain ⟨⟨-, -, -, -, -, -, hcode, hini, hy, hlen, hl⟩, hstt⟩ := cw
  obtain ⟨hx, hb, hml, ho, -⟩ := S
  intro T hT X
  rcases vx_callS X hx (bytes := bytes) (maxL := maxL) (ret := ret) ho hl hstt hini hcode hy hK hg (hsize.trans hml.symm) (argsL := As) (rest := rest) (fun sig h => hn.trans (hlen sig h)) hstack hW (by rw [hb]; exact hdg)
    (fun vm₁ hW₁ => ⟨hf.1, hf.2, hp.2 (T.setVm vm₁) hT hW₁⟩) with ⟨v, vm₁, ⟨U', l2, c2, s2⟩, hW₁, X', ⟨g', mk, t, L, e1, e2, hq, h1, hL, h2, h3⟩, st⟩ | ⟨q, vm₁, ⟨U', l2, c2, s2⟩, hW₁, X', ⟨g', mk, t, L, E, ce, e1, e2, hq, hce, hcv, hcl, h1, hL, h2, h3⟩, st⟩
  · dsimp only [Pt.U, Pt.locs, Pt.cells, Pt.slots] at X' e1 e2 h1 h2 h3 st
    subst h1; subst h2; subst h3
    exact Or.inl ⟨v, (T.setVm vm₁).calling g' mk As.toArray, t, U', L, hT, X', hL, e1, e2, hq, st⟩
  · dsimp only [Pt.U, Pt.locs, Pt.cells, Pt.slots] at X' e1 e2 h1 h2 h3 st hcl
    subst h1; subst h2; subst h3
    exact Or.inr ⟨q, (T.setVm vm₁).calling g' mk As.toArray, t, U', L, E, ce, hT, X', hL, e1, e2, hq, hce, hcv, vx_cls hW₁ hcl, st⟩
end Runs
section Rows
variable {p : Program} {l : Launch} {e : Env} {R : Room} {s : State} {m : MethodId} {args : Array Value} {below : List Frame} {meth : Method} {c : Code} {H : Heap} {locs : List Loc} {cells slots : Nat} {Q : State → Prop}
variable {mc ms : Nat} {free : Addr → Prop} {A0 A1 : Nat → Prop} {H0 : Heap} {a : Array Value} {pc : Nat} {ls : Array Slot} {st0 rest : List Value}
theorem vx_keep {st₀ t T' : State} {L : List Loc} (h0 : st₀.heap = H) (e1 : T'.heap = t.heap) (hS : va_S A0 H0 H locs) (hA : ∀ q, q < H.size → A1 q → A0 q) (hf : ∀ q, free q → A0 q) (hL : ∀ q ∈ L, free q.base) (hF : va_F A1 st₀ t) :
    H.size ≤ T'.heap.size ∧ (∀ q : Nat, q < H.size → ¬ A1 q → T'.heap[q]? = H[q]?) ∧ va_S A0 H0 T'.heap (locs ++ L) := by
  obtain ⟨hz, hk⟩ := hF
  rw [h0] at hz hk
  exact ⟨by rw [e1]; exact hz, fun q h1 h2 => by rw [e1]; exact hk q h1 h2,
    ⟨Nat.le_trans hS.1 (by rw [e1]; exact hz), fun q h1 h2 => by rw [e1, hk q (Nat.lt_of_lt_of_le h1 hS.1) (fun z => h2 (hA q (Nat.lt_of_lt_of_le h1 hS.1) z))]; exact hS.2.1 q h1 h2, fun q hq => by
      rcases List.mem_append.mp hq with h | h
      · exact hS.2.2 q h
      · exact hf _ (hL q h)⟩⟩
theorem vx_calli {S SX : Type} {post : Int32 → S → Prop} {px : SX → Prop} {B : S → State → Prop} {BX : String → SX → State → Prop} {AX : Nat → Prop} (hr : vx_Run p l e R s m args below meth c H locs cells slots mc ms (F0 m pc ls st0) rest (va_Qi post B A1 a) (vx_X px BX AX) free) (hS : va_S A0 H0 H locs) (hA : ∀ q, q < H.size → A1 q → A0 q) (hf : ∀ q, free q → A0 q) (hAX : ∀ q, q < H.size → AX q → A0 q)
    (kx : ∀ (E : String) (ce : Cell) (q9 : Addr) (u : SX) (t : State) (H1 : Heap) (locs1 : List Loc), t.heap = H1 → s.vm.Alike t.vm → px u → BX E u t → H.size ≤ H1.size → (∀ q : Nat, q < H.size → ¬ AX q → H1[q]? = H[q]?) → va_S A0 H0 H1 locs1 → H1[q9]? = some ce → ce.vm = .none → s.vm.findClass E = some ce.cls → vx_W p l e R s m args below meth c H1 locs1 (cells + mc) (slots + ms) Q (F0 m pc ls rest) q9)
    (kk : ∀ (r : Int32) (u : S) (t : State) (H1 : Heap) (locs1 : List Loc), t.heap = H1 → s.vm.Alike t.vm → post r u → B u t → H.size ≤ H1.size → (∀ q : Nat, q < H.size → ¬ A1 q → H1[q]? = H[q]?) → va_S A0 H0 H1 locs1 → W p l e R s m args below meth c H1 locs1 (cells + mc) (slots + ms) Q (F0 m (pc + 3) ls (.int r :: rest))) : W p l e R s m args below meth c H locs cells slots Q (F0 m pc ls st0) := by
  intro T hT X
  rcases hr T hT X with ⟨v, st₀, t, T', L, h0, X', hL, e1, e2, ⟨⟨r, u, hv, hp, hb⟩, hF⟩, st⟩ | ⟨q, st₀, t, T', L, E, ce, h0, X', hL, e1, e2, ⟨u, hp, hb, hF⟩, hce, hcv, hcl, st⟩
  · cases hv
    obtain ⟨k1, k2, k3⟩ := vx_keep h0 e1 hS hA hf hL hF
    obtain ⟨t2, a1, b1⟩ := kk r u t T'.heap (locs ++ L) e1.symm (by rw [← e2]; exact X'.warmed.alike) hp hb k1 k2 k3 T' rfl X'
    exact ⟨t2, st t2 a1, b1⟩
  · obtain ⟨k1, k2, k3⟩ := vx_keep h0 e1 hS hAX hf hL hF
    obtain ⟨t2, a1, b1⟩ := kx E ce q u t T'.heap (locs ++ L) e1.symm (by rw [← e2]; exact X'.warmed.alike) hp hb k1 k2 k3 (by rw [e1]; exact hce) hcv hcl T' rfl X'
    exact ⟨t2, st.trans a1, b1⟩
theorem vx_calll {S SX : Type} {post : Int64 → S → Prop} {px : SX → Prop} {B : S → State → Prop} {BX : String → SX → State → Prop} {AX : Nat → Prop} (hr : vx_Run p l e R s m args below meth c H locs cells slots mc ms (F0 m pc ls st0) rest (va_Ql post B A1 a) (vx_X px BX AX) free) (hS : va_S A0 H0 H locs) (hA : ∀ q, q < H.size → A1 q → A0 q) (hf : ∀ q, free q → A0 q) (hAX : ∀ q, q < H.size → AX q → A0 q)
    (kx : ∀ (E : String) (ce : Cell) (q9 : Addr) (u : SX) (t : State) (H1 : Heap) (locs1 : List Loc), t.heap = H1 → s.vm.Alike t.vm → px u → BX E u t → H.size ≤ H1.size → (∀ q : Nat, q < H.size → ¬ AX q → H1[q]? = H[q]?) → va_S A0 H0 H1 locs1 → H1[q9]? = some ce → ce.vm = .none → s.vm.findClass E = some ce.cls → vx_W p l e R s m args below meth c H1 locs1 (cells + mc) (slots + ms) Q (F0 m pc ls rest) q9)
    (kk : ∀ (r : Int64) (u : S) (t : State) (H1 : Heap) (locs1 : List Loc), t.heap = H1 → s.vm.Alike t.vm → post r u → B u t → H.size ≤ H1.size → (∀ q : Nat, q < H.size → ¬ A1 q → H1[q]? = H[q]?) → va_S A0 H0 H1 locs1 → W p l e R s m args below meth c H1 locs1 (cells + mc) (slots + ms) Q (F0 m (pc + 3) ls (.long r :: rest))) : W p l e R s m args below meth c H locs cells slots Q (F0 m pc ls st0) := by
  intro T hT X
  rcases hr T hT X with ⟨v, st₀, t, T', L, h0, X', hL, e1, e2, ⟨⟨r, u, hv, hp, hb⟩, hF⟩, st⟩ | ⟨q, st₀, t, T', L, E, ce, h0, X', hL, e1, e2, ⟨u, hp, hb, hF⟩, hce, hcv, hcl, st⟩
  · cases hv
    obtain ⟨k1, k2, k3⟩ := vx_keep h0 e1 hS hA hf hL hF
    obtain ⟨t2, a1, b1⟩ := kk r u t T'.heap (locs ++ L) e1.symm (by rw [← e2]; exact X'.warmed.alike) hp hb k1 k2 k3 T' rfl X'
    exact ⟨t2, st t2 a1, b1⟩
  · obtain ⟨k1, k2, k3⟩ := vx_keep h0 e1 hS hAX hf hL hF
    obtain ⟨t2, a1, b1⟩ := kx E ce q u t T'.heap (locs ++ L) e1.symm (by rw [← e2]; exact X'.warmed.alike) hp hb k1 k2 k3 (by rw [e1]; exact hce) hcv hcl T' rfl X'
    exact ⟨t2, st.trans a1, b1⟩
theorem vx_callf {S SX : Type} {post : UInt32 → S → Prop} {px : SX → Prop} {B : S → State → Prop} {BX : String → SX → State → Prop} {AX : Nat → Prop} (hr : vx_Run p l e R s m args below meth c H locs cells slots mc ms (F0 m pc ls st0) rest (va_Qf post B A1 a) (vx_X px BX AX) free) (hS : va_S A0 H0 H locs) (hA : ∀ q, q < H.size → A1 q → A0 q) (hf : ∀ q, free q → A0 q) (hAX : ∀ q, q < H.size → AX q → A0 q)
    (kx : ∀ (E : String) (ce : Cell) (q9 : Addr) (u : SX) (t : State) (H1 : Heap) (locs1 : List Loc), t.heap = H1 → s.vm.Alike t.vm → px u → BX E u t → H.size ≤ H1.size → (∀ q : Nat, q < H.size → ¬ AX q → H1[q]? = H[q]?) → va_S A0 H0 H1 locs1 → H1[q9]? = some ce → ce.vm = .none → s.vm.findClass E = some ce.cls → vx_W p l e R s m args below meth c H1 locs1 (cells + mc) (slots + ms) Q (F0 m pc ls rest) q9)
    (kk : ∀ (r : UInt32) (u : S) (t : State) (H1 : Heap) (locs1 : List Loc), t.heap = H1 → s.vm.Alike t.vm → post r u → B u t → H.size ≤ H1.size → (∀ q : Nat, q < H.size → ¬ A1 q → H1[q]? = H[q]?) → va_S A0 H0 H1 locs1 → W p l e R s m args below meth c H1 locs1 (cells + mc) (slots + ms) Q (F0 m (pc + 3) ls (.float r :: rest))) : W p l e R s m args below meth c H locs cells slots Q (F0 m pc ls st0) := by
  intro T hT X
  rcases hr T hT X with ⟨v, st₀, t, T', L, h0, X', hL, e1, e2, ⟨⟨r, u, hv, hp, hb⟩, hF⟩, st⟩ | ⟨q, st₀, t, T', L, E, ce, h0, X', hL, e1, e2, ⟨u, hp, hb, hF⟩, hce, hcv, hcl, st⟩
  · cases hv
    obtain ⟨k1, k2, k3⟩ := vx_keep h0 e1 hS hA hf hL hF
    obtain ⟨t2, a1, b1⟩ := kk r u t T'.heap (locs ++ L) e1.symm (by rw [← e2]; exact X'.warmed.alike) hp hb k1 k2 k3 T' rfl X'
    exact ⟨t2, st t2 a1, b1⟩
  · obtain ⟨k1, k2, k3⟩ := vx_keep h0 e1 hS hAX hf hL hF
    obtain ⟨t2, a1, b1⟩ := kx E ce q u t T'.heap (locs ++ L) e1.symm (by rw [← e2]; exact X'.warmed.alike) hp hb k1 k2 k3 (by rw [e1]; exact hce) hcv hcl T' rfl X'
    exact ⟨t2, st.trans a1, b1⟩
theorem vx_calld {S SX : Type} {post : UInt64 → S → Prop} {px : SX → Prop} {B : S → State → Prop} {BX : String → SX → State → Prop} {AX : Nat → Prop} (hr : vx_Run p l e R s m args below meth c H locs cells slots mc ms (F0 m pc ls st0) rest (va_Qd post B A1 a) (vx_X px BX AX) free) (hS : va_S A0 H0 H locs) (hA : ∀ q, q < H.size → A1 q → A0 q) (hf : ∀ q, free q → A0 q) (hAX : ∀ q, q < H.size → AX q → A0 q)
    (kx : ∀ (E : String) (ce : Cell) (q9 : Addr) (u : SX) (t : State) (H1 : Heap) (locs1 : List Loc), t.heap = H1 → s.vm.Alike t.vm → px u → BX E u t → H.size ≤ H1.size → (∀ q : Nat, q < H.size → ¬ AX q → H1[q]? = H[q]?) → va_S A0 H0 H1 locs1 → H1[q9]? = some ce → ce.vm = .none → s.vm.findClass E = some ce.cls → vx_W p l e R s m args below meth c H1 locs1 (cells + mc) (slots + ms) Q (F0 m pc ls rest) q9)
    (kk : ∀ (r : UInt64) (u : S) (t : State) (H1 : Heap) (locs1 : List Loc), t.heap = H1 → s.vm.Alike t.vm → post r u → B u t → H.size ≤ H1.size → (∀ q : Nat, q < H.size → ¬ A1 q → H1[q]? = H[q]?) → va_S A0 H0 H1 locs1 → W p l e R s m args below meth c H1 locs1 (cells + mc) (slots + ms) Q (F0 m (pc + 3) ls (.double r :: rest))) : W p l e R s m args below meth c H locs cells slots Q (F0 m pc ls st0) := by
  intro T hT X
  rcases hr T hT X with ⟨v, st₀, t, T', L, h0, X', hL, e1, e2, ⟨⟨r, u, hv, hp, hb⟩, hF⟩, st⟩ | ⟨q, st₀, t, T', L, E, ce, h0, X', hL, e1, e2, ⟨u, hp, hb, hF⟩, hce, hcv, hcl, st⟩
  · cases hv
    obtain ⟨k1, k2, k3⟩ := vx_keep h0 e1 hS hA hf hL hF
    obtain ⟨t2, a1, b1⟩ := kk r u t T'.heap (locs ++ L) e1.symm (by rw [← e2]; exact X'.warmed.alike) hp hb k1 k2 k3 T' rfl X'
    exact ⟨t2, st t2 a1, b1⟩
  · obtain ⟨k1, k2, k3⟩ := vx_keep h0 e1 hS hAX hf hL hF
    obtain ⟨t2, a1, b1⟩ := kx E ce q u t T'.heap (locs ++ L) e1.symm (by rw [← e2]; exact X'.warmed.alike) hp hb k1 k2 k3 (by rw [e1]; exact hce) hcv hcl T' rfl X'
    exact ⟨t2, st.trans a1, b1⟩
theorem vx_callv {S SX : Type} {post : S → Prop} {px : SX → Prop} {B : S → State → Prop} {BX : String → SX → State → Prop} {AX : Nat → Prop} (hr : vx_Run p l e R s m args below meth c H locs cells slots mc ms (F0 m pc ls st0) rest (va_Qv post B A1 a) (vx_X px BX AX) free) (hS : va_S A0 H0 H locs) (hA : ∀ q, q < H.size → A1 q → A0 q) (hf : ∀ q, free q → A0 q) (hAX : ∀ q, q < H.size → AX q → A0 q)
    (kx : ∀ (E : String) (ce : Cell) (q9 : Addr) (u : SX) (t : State) (H1 : Heap) (locs1 : List Loc), t.heap = H1 → s.vm.Alike t.vm → px u → BX E u t → H.size ≤ H1.size → (∀ q : Nat, q < H.size → ¬ AX q → H1[q]? = H[q]?) → va_S A0 H0 H1 locs1 → H1[q9]? = some ce → ce.vm = .none → s.vm.findClass E = some ce.cls → vx_W p l e R s m args below meth c H1 locs1 (cells + mc) (slots + ms) Q (F0 m pc ls rest) q9)
    (kk : ∀ (u : S) (t : State) (H1 : Heap) (locs1 : List Loc), t.heap = H1 → s.vm.Alike t.vm → post u → B u t → H.size ≤ H1.size → (∀ q : Nat, q < H.size → ¬ A1 q → H1[q]? = H[q]?) → va_S A0 H0 H1 locs1 → W p l e R s m args below meth c H1 locs1 (cells + mc) (slots + ms) Q (F0 m (pc + 3) ls (rest))) : W p l e R s m args below meth c H locs cells slots Q (F0 m pc ls st0) := by
  intro T hT X
  rcases hr T hT X with ⟨v, st₀, t, T', L, h0, X', hL, e1, e2, ⟨⟨u, hv, hp, hb⟩, hF⟩, st⟩ | ⟨q, st₀, t, T', L, E, ce, h0, X', hL, e1, e2, ⟨u, hp, hb, hF⟩, hce, hcv, hcl, st⟩
  · cases hv
    obtain ⟨k1, k2, k3⟩ := vx_keep h0 e1 hS hA hf hL hF
    obtain ⟨t2, a1, b1⟩ := kk u t T'.heap (locs ++ L) e1.symm (by rw [← e2]; exact X'.warmed.alike) hp hb k1 k2 k3 T' rfl X'
    exact ⟨t2, st t2 a1, b1⟩
  · obtain ⟨k1, k2, k3⟩ := vx_keep h0 e1 hS hAX hf hL hF
    obtain ⟨t2, a1, b1⟩ := kx E ce q u t T'.heap (locs ++ L) e1.symm (by rw [← e2]; exact X'.warmed.alike) hp hb k1 k2 k3 (by rw [e1]; exact hce) hcv hcl T' rfl X'
    exact ⟨t2, st.trans a1, b1⟩
/-- caught by the row x of this method's table; the rows ahead don't take it -/
theorem vx_catch {own name : String} {E : String} {ce : Cell} {q : Addr} (hown : s.vm.findClass own = some m.cls) (pre : List ExceptionTableEntry) (x : ExceptionTableEntry) (suf : List ExceptionTableEntry) (hsplit : c.exceptionTable.toList = pre ++ x :: suf)
    (hpass : ∀ z ∈ pre, covers z pc = false ∨ (z.catchType ≠ 0 ∧ ∃ nm : String, (Cond.classLink own z.catchType nm).before args s = true ∧ va_Nc E nm s)) (hx : covers x pc = true) (h0 : x.catchType ≠ 0)
    (hlink : (Cond.classLink own x.catchType name).before args s = true) (hcast : (Cond.castable E name).before args s = true) (hcell : H[q]? = some ce) (hv : ce.vm = .none) (hcl : s.vm.findClass E = some ce.cls)
    (kk : W p l e R s m args below meth c H locs cells slots Q (F0 m x.handlerPc ls [.ref q])) : vx_W p l e R s m args below meth c H locs cells slots Q (F0 m pc ls rest) q := by
  intro T hT X
  have hpl : e.platform.magicAccessors = ({} : Platform).magicAccessors := by rw [X.admits.platform]
  obtain ⟨c3, c4, hc3, hc4, hasg⟩ := Cond.castable_spec hcast
  cases Option.some.inj (hc3.symm.trans hcl)
  obtain ⟨c5, hc5, hcl5⟩ := Cond.classLink_spec hown hlink e.platform hpl
  cases Option.some.inj (hc4.symm.trans hc5)
  obtain ⟨vm', X', st⟩ := X.thenCaughtThrough q (g := F0 m pc ls rest) rfl (Steps.refl _) (by rw [hT]; exact hcell) (by rw [hv]; rfl) (by obtain ⟨k9, h9, -⟩ := Vm.findClass_spec hcl; exact ⟨k9, h9⟩) pre x suf hsplit
    (fun z hz => by
      rcases hpass z hz with h | ⟨hz0, nm, hl1, hn1⟩
      · exact Or.inl h
      · obtain ⟨c6, hc6, hcl6⟩ := Cond.classLink_spec hown hl1 e.platform hpl
        obtain ⟨a8, b8, h1, h2, h3⟩ := hn1
        cases Option.some.inj (h1.symm.trans hcl)
        cases Option.some.inj (h2.symm.trans hc6)
        exact Or.inr ⟨hz0, _, hcl6, h3⟩) hx (Or.inr ⟨h0, c4, hcl5, hasg⟩)
  obtain ⟨t, a1, b1⟩ := kk (T.setVm vm') hT X'
  exact ⟨t, st.trans a1, b1⟩
end Rows
section Ends
variable {p : Program} {l : Launch} {e : Env} {R : Room} {s : State} {m : MethodId} {args : Array Value} {below : List Frame} {meth : Method} {c : Code} {H : Heap} {locs : List Loc} {cells slots : Nat} {Q : State → Prop}
variable {mc ms : Nat} {free : Addr → Prop} {A0 A1 : Nat → Prop} {H0 : Heap} {a : Array Value} {ls : Array Slot} {st0 rest : List Value}
variable {Qc : Array Value → State → Outcome → State → Prop} {XC : String → State → State → Prop}
/-- what a body that may throw owes at its end -/
def vx_MQ (below : List Frame) (Qc : Array Value → State → Outcome → State → Prop) (XC : String → State → State → Prop) (a : Array Value) (s : State) (mc ms : Nat) (free : Addr → Prop) : State → Prop := fun t =>
  ∃ o, t.status = .running ∧ Ended t below o ∧ vx_Q Qc XC mc ms free a s o t
theorem vx_ret {g : JFrame} {mc ms : Nat} (k : W p l e R s m args below meth c H locs cells slots (MQ below Qc args s mc ms free) g) : W p l e R s m args below meth c H locs cells slots (vx_MQ below Qc XC args s mc ms free) g := by
  intro T hT X
  obtain ⟨t, a1, o, b1, b2, b3, b4⟩ := k T hT X
  exact ⟨t, a1, o, b1, b2, Or.inl ⟨b3, b4⟩⟩
/-- not caught here: it goes on to the caller -/
theorem vx_widen {g : JFrame} {q : Addr} {k n : Nat} (h1 : cells ≤ k) (h2 : slots ≤ n) (kk : vx_W p l e R s m args below meth c H locs k n Q g q) : vx_W p l e R s m args below meth c H locs cells slots Q g q := fun T hT X => kk T hT (stand_widen X h1 h2)
theorem vx_out {pc : Nat} {E : String} {ce : Cell} {q : Addr} {mc ms : Nat} (hout : ∀ x ∈ c.exceptionTable.toList, covers x pc = false) (hlocks : meth.locks = false) (hcell : H[q]? = some ce) (hv : ce.vm = .none) (hcl : s.vm.findClass E = some ce.cls)
    (hx : ∀ t : State, t.heap = H → s.vm.Alike t.vm → XC E s t) (hf : ∀ z ∈ locs, free z.base) (hc : cells ≤ mc) (hs : slots ≤ ms) :
    vx_W p l e R s m args below meth c H locs cells slots (vx_MQ below Qc XC args s mc ms free) (F0 m pc ls rest) q := by
  intro T hT X
  obtain ⟨st1, hrun, hend, hW, hsm⟩ := X.leaveThrown q (g := F0 m pc ls rest) rfl rfl rfl hout hlocks
  have hcell9 : (T.setFrames (.throwing q :: below)).heap[q]? = some ce := by
    show T.heap[q]? = some ce
    rw [hT]; exact hcell
  exact ⟨_, st1, .threw q, hrun, hend, Or.inr ⟨q, rfl, E, ce, locs, hx _ hT hW.alike, hcell9, hv, hcl, hW, hsm.mono hc hs, hf⟩⟩
theorem vx_frame {U : State} {k n : Nat} (h : s.sameButNew ({ U with vm := s.vm } : State) locs k n) : s.heap.size ≤ U.heap.size ∧ ∀ q : Nat, q < s.heap.size → (∀ z ∈ locs, z.base ≠ q) → U.heap[q]? = s.heap[q]? := by
  obtain ⟨-, h2, -, -, -, h6⟩ := h
  refine ⟨h2, fun q hq hz => ?_⟩
  obtain ⟨c9, e1, e2, e3, e4⟩ := h6 q _ (Array.getElem?_eq_getElem hq)
  have hs : c9.slots = (s.heap[q]).slots := Array.ext_getElem? fun i => e4 i fun hm => hz _ hm rfl
  have h9 : c9 = s.heap[q] := by
    rw [hs] at e2
    exact e2
  have e5 : U.heap[q]? = some c9 := e1
  rw [e5, h9, Array.getElem?_eq_getElem hq]
/-- the words of a throw but the four that speak of the heap -/
def vx_no (w : Cond) : Bool := decide (w ≠ .isRef (.static Bundle.tN "UNASSIGNED_STACK" Bundle.steD)) && decide (w ≠ .isRef (.static Bundle.tN "SUPPRESSED_SENTINEL" Bundle.listD)) && decide (w ≠ .laysStatic Bundle.tN "UNASSIGNED_STACK" Bundle.steD) && decide (w ≠ .laysStatic Bundle.tN "SUPPRESSED_SENTINEL" Bundle.listD)
def vx_at0 (own : String) (ic : Nat) (X : String) (names : List String) : List Cond := (Bundle.ownAtoms0 own ic X names).filter vx_no
def vx_atS (own : String) (ic : Nat) (X : String) (names : List String) : List Cond := (Bundle.ownAtoms own ic X names).filter vx_no
/-- a word that the tables alone decide, or a good one -/
def vx_ot (w : Cond) : Bool := w.onTables || goodWord w
theorem vx_ot_at {args a' : Array Value} {s U : State} {w : Cond} (hW : s.WarmedH U.vm) (hvm : s.vm = U.vm) (hg : vx_ot w = true) (h : w.before args s = true) : w.before a' U = true := by
  simp only [vx_ot, Bool.or_eq_true] at hg
  rcases hg with hg | hg
  · exact va_tabs hg hvm h
  · exact word_at hW (good_of_word hg) h
/-- a list's words: the good ones out of the method's own list, the others by premises of their own -/
theorem vx_hat {args : Array Value} {s : State} {L B : List Cond} (h1 : ∀ w ∈ L.filter goodWord, w.before args s = true) (h2 : ∀ w ∈ L.filter (fun w => !goodWord w), w ∈ B) (h3 : ∀ w ∈ B, w.before args s = true) : ∀ w ∈ L, w.before args s = true := by
  intro w hw
  by_cases g : goodWord w = true
  · exact h1 w (List.mem_filter.mpr ⟨hw, g⟩)
  · refine h3 w (h2 w (List.mem_filter.mpr ⟨hw, ?_⟩))
    show (!goodWord w) = true
    cases hgw : goodWord w
    · rfl
    · exact absurd hgw g
theorem vx_c {args : Array Value} {s : State} {w : Cond} {B : List Cond} (h : w.before args s = true) (t : ∀ w ∈ B, w.before args s = true) : ∀ w' ∈ w :: B, w'.before args s = true := fun w' h' => (List.mem_cons.mp h').elim (fun e => by rw [e]; exact h) (t w')
theorem vx_n {args : Array Value} {s : State} : ∀ w ∈ ([] : List Cond), w.before args s = true := fun _ h => nomatch h
theorem vx_own {args : Array Value} {s : State} {L : List Cond} (h1 : ∀ w ∈ L.filter vx_no, w.before args s = true)
    (hU : (Cond.isRef (.static Bundle.tN "UNASSIGNED_STACK" Bundle.steD)).before args s = true) (hN : (Cond.isRef (.static Bundle.tN "SUPPRESSED_SENTINEL" Bundle.listD)).before args s = true)
    (lU : (Cond.laysStatic Bundle.tN "UNASSIGNED_STACK" Bundle.steD).before args s = true) (lN : (Cond.laysStatic Bundle.tN "SUPPRESSED_SENTINEL" Bundle.listD).before args s = true) : ∀ w ∈ L, w.before args s = true := by
  intro w hw
  by_cases e1 : w = .isRef (.static Bundle.tN "UNASSIGNED_STACK" Bundle.steD)
  · rw [e1]; exact hU
  · by_cases e2 : w = .isRef (.static Bundle.tN "SUPPRESSED_SENTINEL" Bundle.listD)
    · rw [e2]; exact hN
    · by_cases e3 : w = .laysStatic Bundle.tN "UNASSIGNED_STACK" Bundle.steD
      · rw [e3]; exact lU
      · by_cases e4 : w = .laysStatic Bundle.tN "SUPPRESSED_SENTINEL" Bundle.listD
        · rw [e4]; exact lN
        · exact h1 w (List.mem_filter.mpr ⟨hw, by unfold vx_no; rw [decide_eq_true e1, decide_eq_true e2, decide_eq_true e3, decide_eq_true e4]; rfl⟩)
/-- where a static field lies, its class's statics cell in H -/
def vx_L (C n d : String) (A : Nat → Prop) (U : State) (H : Heap) : Prop := ∃ (c : ClassId) (k : Class) (i : Nat) (f : Field) (a : Nat) (cell : Cell), U.vm.findClass C = some c ∧ U.fieldFound? C n d = some (c, k, i, f) ∧ f.isStatic = true ∧ k.statics = some a ∧ H[a]? = some cell ∧ cell.vm.isStatics = true ∧ cell.cls = c ∧ f.slot < cell.slots.size ∧ k.staticTypes[f.slot]? = some f.type ∧ ¬ A a
theorem vx_L.moved {C n d : String} {A : Nat → Prop} {u U : State} {H : Heap} (hvm : u.vm.Alike U.vm) (h : vx_L C n d A u H) : vx_L C n d A U H := by
  obtain ⟨c, k, i, f, a, cell, h1, h2, h3, h4, h5, h6, h7, h8, h9, h10⟩ := h
  obtain ⟨k', hi', he⟩ := State.fieldFound?_setVm hvm h2
  exact ⟨c, k', i, f, a, cell, by rw [hvm.findClass]; exact h1, hi', h3, by rw [he]; exact h4, h5, h6, h7, h8, by rw [he]; exact h9, h10⟩
theorem vx_L.kept {C n d : String} {A : Nat → Prop} {U : State} {H H1 : Heap} (h : vx_L C n d A U H) (hq : ∀ a : Nat, a < H.size → ¬ A a → H1[a]? = H[a]?) : vx_L C n d A U H1 := by
  obtain ⟨c, k, i, f, a, cell, h1, h2, h3, h4, h5, h6, h7, h8, h9, h10⟩ := h
  exact ⟨c, k, i, f, a, cell, h1, h2, h3, h4, by rw [hq a (Array.getElem?_eq_some_iff.mp h5).1 h10]; exact h5, h6, h7, h8, h9, h10⟩
theorem vx_L.narrow {C n d : String} {A B : Nat → Prop} {U : State} {H : Heap} (h : vx_L C n d A U H) (hAB : ∀ q, B q → A q) : vx_L C n d B U H := by
  obtain ⟨c, k, i, f, a, cell, h1, h2, h3, h4, h5, h6, h7, h8, h9, h10⟩ := h
  exact ⟨c, k, i, f, a, cell, h1, h2, h3, h4, h5, h6, h7, h8, h9, fun z => h10 (hAB _ z)⟩
theorem vx_L.word {C n d : String} {A : Nat → Prop} {s : State} {args : Array Value} (h : vx_L C n d A s s.heap) : (Cond.laysStatic C n d).before args s = true := by
  obtain ⟨c, k, i, f, a, cell, h1, h2, h3, h4, h5, h6, h7, h8, h9, -⟩ := h
  show (Cond.laysStatic C n d).holds args s none s [] = true
  exact Cond.laysStatic_of h1 h2 h3 h4 h5 h6 h7 h8 h9
/-- .. and what it holds: null or some reference -/
def vx_Zq (C n d : String) (A : Nat → Prop) (U : State) (H : Heap) : Prop := va_Zq C n d A U H ∧ vx_L C n d A U H
theorem vx_Zq.moved {C n d : String} {A : Nat → Prop} {u U : State} {H : Heap} (hvm : u.vm.Alike U.vm) (h : vx_Zq C n d A u H) : vx_Zq C n d A U H := ⟨va_Zq.moved hvm h.1, vx_L.moved hvm h.2⟩
theorem vx_Zq.kept {C n d : String} {A : Nat → Prop} {U : State} {H H1 : Heap} (h : vx_Zq C n d A U H) (hq : ∀ a : Nat, a < H.size → ¬ A a → H1[a]? = H[a]?) : vx_Zq C n d A U H1 := ⟨va_Zq.kept h.1 hq, vx_L.kept h.2 hq⟩
theorem vx_Zq.narrow {C n d : String} {A B : Nat → Prop} {U : State} {H : Heap} (h : vx_Zq C n d A U H) (hAB : ∀ q, B q → A q) : vx_Zq C n d B U H := ⟨va_Zq.narrow h.1 hAB, vx_L.narrow h.2 hAB⟩
theorem vx_Zqof {args : Array Value} {s : State} {C n d : String} {A : Nat → Prop} (hl : (Cond.laysStatic C n d).before args s = true) (hini : (Cond.initialized C).before args s = true) (h : (Cond.isRef (.static C n d)).before args s = true) (hA : ∀ a : Nat, a < s.heap.size → ¬ A a) : vx_Zq C n d A s s.heap := by
  refine ⟨va_Zqof hl hini h hA, ?_⟩
  obtain ⟨c, k, i, f, a, cell, h1, h2, h3, h4, h5, h6, h7, h8, h9⟩ := Cond.laysStatic_spec hl
  exact ⟨c, k, i, f, a, cell, h1, h2, h3, h4, h5, h6, h7, h8, h9, hA a (Array.getElem?_eq_some_iff.mp h5).1⟩
theorem vx_isRef {C n d : String} {v : Value} {A : Nat → Prop} {s : State} {args : Array Value} (h : va_Z C n d v A s s.heap) (hv : v.isRef = true) : (Cond.isRef (.static C n d)).before args s = true := by
  obtain ⟨cf, kf, fi, f, a, cell, h1, h2, h3, h4, h5, h6, h7, -⟩ := h
  have he : (Term.static C n d).eval args s none [] s = some v := by
    simp [Term.eval, State.fieldNamed?, h1, h2, h4, h5, h6, h7]
  simp only [Cond.before, Cond.holds, Cond.value, he]
  cases v <;> simp_all [Value.isRef]
theorem vx_isRefq {C n d : String} {A : Nat → Prop} {s : State} {args : Array Value} (h : va_Zq C n d A s s.heap) : (Cond.isRef (.static C n d)).before args s = true := by
  rcases h with h | ⟨t, h⟩
  · exact vx_isRef h rfl
  · exact vx_isRef h rfl
/-- the same frame, seen from here: as if the method were called anew in this heap -/
theorem vx_rebase {T : State} (X : Stand p l e R s m args below meth c T locs cells slots) {R' : Room} (hf : R'.frames ≤ R.frames) (hl : R'.locals ≤ R.locals) (hc : cells + R'.cells ≤ R.cells) (hs : slots + R'.slots ≤ R.slots) :
    Stand p l e R' ((T.setVm s.vm).setFrames (.invoking m args :: below)) m args below meth c T [] 0 0 := by
  have htop : (T.setVm s.vm).topJava?.isSome := X.here.top
  have hF : ((T.setVm s.vm).setFrames (.invoking m args :: below)).frames = .invoking m args :: below := State.frames_setFrames _ (State.cur_lt_of_top htop)
  obtain ⟨g₀, hg0⟩ := Option.isSome_iff_exists.mp htop
  obtain ⟨r, hr⟩ := State.topJava?_eq_some.mp hg0
  have hl9 : e.platform.stackLimits (T.setVm s.vm).me = e.platform.stackLimits s.me := X.limits
  have hb9 : (T.setVm s.vm).me.stackBytes = s.me.stackBytes := X.bytes
  refine ⟨X.admits, X.cas, X.clock, hF, ?_, X.hears, X.method, X.code, X.here, X.tail, X.warmed, ?_, ?_, ?_⟩
  · have h := X.room
    have hU : ((T.setVm s.vm).setFrames (.invoking m args :: below)).localsInUse = s.localsInUse := by
      rw [State.localsInUse_invoking hF (meth := meth) (c := c) X.method X.code, State.localsInUse_invoking X.frames X.method X.code]
    simp only [State.hasRoom, Bool.and_eq_true, decide_eq_true_eq] at h ⊢
    obtain ⟨⟨⟨⟨h1, h2, h3, h4, h5, h6⟩, h7⟩, h8⟩, h9⟩ := h
    rw [X.frames, List.length_cons] at h2 h3
    have q1 := X.heapSize
    have q2 := X.used
    simp only [hF, hU, List.length_cons, State.stackLimits_setFrames, State.stackBytes_setFrames, hl9, hb9]
    refine ⟨⟨⟨⟨by omega, by omega, by omega, by omega, by omega, h6⟩, ?_⟩, ?_⟩, X.book⟩
    · show T.heap.size + R'.cells ≤ e.platform.maxCells
      omega
    · show T.slotsUsed + R'.slots ≤ e.platform.maxSlots
      omega
  · rw [State.stackLimits_setFrames]; rfl
  · rw [State.stackBytes_setFrames]; rfl
  · refine ⟨?_, Nat.le_refl _, Nat.le_refl _, ?_, ?_, fun a c9 h9 => ⟨c9, h9, rfl, rfl, fun _ _ => rfl⟩⟩
    · obtain ⟨t, ht, -⟩ := State.frames_cons hr
      show T.setVm s.vm = { ((T.setVm s.vm).setFrames (.invoking m args :: below)).setFrames (T.setVm s.vm).frames with heap := T.heap, slotsUsed := T.slotsUsed }
      rw [State.setFrames_setFrames, State.setFrames_self ht]
      rfl
    · show T.slotsUsed = T.slotsUsed + ((T.heap.toList.drop T.heap.size).map (·.slots.size)).sum
      rw [List.drop_eq_nil_of_le (Nat.le_of_eq Array.length_toList)]
      rfl
    · show ((T.heap.toList.drop T.heap.size).map (·.slots.size)).sum ≤ 0
      rw [List.drop_eq_nil_of_le (Nat.le_of_eq Array.length_toList)]
      exact Nat.le_refl _
/-- 'throw new E()': new; dup; invokespecial; athrow -/
theorem vx_throw0 {cc : ByteArray} {pc : Nat} (hexec : p.tables.exec = Jvm.exec) (hb : c.code = cc) (hl : l.stackTraces = false) {own cls : String} {names : List String} {ik ic mc ms : Nat} {A : Nat → Prop}
    (hown : s.vm.findClass own = some m.cls) (hcls : Bundle.fit cls = true) (hnames : ∀ n ∈ names, Bundle.fit n = true)
    (hk : (Cond.classLink own ik cls).before args s = true) (hini : (Cond.initialized cls).before args s = true) (hat : ∀ w ∈ vx_at0 own ic cls names, w.before args s = true)
    (hgood : ∀ w ∈ Cond.classLink own ik cls :: Cond.initialized cls :: vx_at0 own ic cls names, vx_ot w = true)
    (hU : vx_Zq Bundle.tN "UNASSIGNED_STACK" Bundle.steD A s s.heap) (hN : vx_Zq Bundle.tN "SUPPRESSED_SENTINEL" Bundle.listD A s s.heap) (hS : va_S A s.heap H locs) (hsize : ls.size = c.maxLocals)
    (d0 : decode cc pc = .ok (.new ik, 3)) (d3 : decode cc (pc + 3) = .ok (.dup, 1)) (d4 : decode cc (pc + 4) = .ok (.invokespecial ic, 3)) (d7 : decode cc (pc + 7) = .ok (.athrow, 1))
    (hout : ∀ x ∈ c.exceptionTable.toList, covers x (pc + 7) = false)
    (hRframes : names.length + 3 < R.frames) (hRlocals : (rest.map fun v => v.category).sum + (13 * (names.length + 1) + 42) ≤ R.locals) (hRcells : cells + 1 ≤ R.cells) (hRslots : slots + 6 ≤ R.slots) (hlocks : meth.locks = false)
    (hx : ∀ t : State, s.vm.Alike t.vm → H.size ≤ t.heap.size → (∀ q : Nat, q < H.size → t.heap[q]? = H[q]?) → XC cls s t)
    (hf : ∀ z ∈ locs, free z.base) (hc : cells + 1 ≤ mc) (hs : slots + 6 ≤ ms) :
    W p l e R s m args below meth c H locs cells slots (vx_MQ below Qc XC args s mc ms free) (F0 m pc ls rest) := by
  intro T hT X
  have htr : e.platform.stackTraces = false := (show e.platform.stackTraces = l.stackTraces by rw [X.admits.platform]).trans hl
  have Y := vx_rebase X (R' := { frames := R.frames, locals := R.locals, cells := 1, slots := 6 }) (Nat.le_refl _) (Nat.le_refl _) hRcells hRslots
  obtain ⟨s', hA⟩ : ∃ z, z = (T.setVm s.vm).setFrames (.invoking m args :: below) := ⟨_, rfl⟩
  rw [← hA] at Y
  have hvm : s'.vm = s.vm := by rw [hA]; rfl
  have hhp : s'.heap = H := by rw [hA]; exact hT
  have hW0 : s.WarmedH s'.vm := by rw [hvm]; exact State.WarmedH.refl s
  have hat' : ∀ w ∈ vx_at0 own ic cls names, w.before args s' = true := fun w hw => vx_ot_at hW0 hvm.symm (hgood w (List.mem_cons_of_mem _ (List.mem_cons_of_mem _ hw))) (hat w hw)
  have hk' : (Cond.classLink own ik cls).before args s' = true := vx_ot_at hW0 hvm.symm (hgood _ List.mem_cons_self) hk
  have hini' : (Cond.initialized cls).before args s' = true := vx_ot_at hW0 hvm.symm (hgood _ (List.mem_cons_of_mem _ List.mem_cons_self)) hini
  have hU' : vx_Zq Bundle.tN "UNASSIGNED_STACK" Bundle.steD A s' s'.heap := by rw [hhp]; exact vx_Zq.moved hW0.alike (hU.kept hS.2.1)
  have hN' : vx_Zq Bundle.tN "SUPPRESSED_SENTINEL" Bundle.listD A s' s'.heap := by rw [hhp]; exact vx_Zq.moved hW0.alike (hN.kept hS.2.1)
  have h : ∀ w ∈ Bundle.ownAtoms0 own ic cls names, w.before args s' = true := vx_own hat' (vx_isRefq hU'.1) (vx_isRefq hN'.1) hU'.2.word hN'.2.word
  have hown' : s'.vm.findClass own = some m.cls := by rw [hvm]; exact hown
  have hins : (Cond.instantiable cls 6).before args s' = true := h _ (by simp [Bundle.ownAtoms0])
  obtain ⟨vm₁, cX, kX, hfX, hkX, -, -, X₁, st1⟩ := Y.newCold hexec (own := own) (C := cls) (index := ik) (n := 6) hown' hk' hins hini'
    (g := F0 m pc ls rest) rfl (by rw [hb]; exact d0) (Nat.le_refl _) (Nat.le_refl _)
  generalize hT1 : (T.setVm vm₁).pushCell { cls := cX, slots := kX.instanceTypes.map defaultValue, vm := .none } = T1 at X₁ st1
  have hcat : (Value.ref T.heap.size).category = 1 := rfl
  have hcellA : T1.heap[T.heap.size]? = some (freshCell cX kX) := by rw [← hT1]; exact State.heap_pushCell_size _ _
  have d3' : decode c.code (pc + 3) = .ok (.dup, 1) := by rw [hb]; exact d3
  obtain ⟨U, hsteps, hrun, hend, hW, hsame, ce, hce, hO⟩ := X₁.ctorThrow0 hexec htr (own := own) (cls := cls) (names := names) (ic := ic) hown' hcls hnames h (fun x hx => nomatch hx) hfX hkX hcellA (by rw [hhp, hT]; exact Nat.le_refl _)
    (g := { method := m, pc := pc + 4, locals := ls, stack := .ref T.heap.size :: .ref T.heap.size :: rest, locked := none }) rfl hsize rfl rfl (rest := rest) rfl
    (by rw [hb]; exact d4) (by rw [hb]; exact d7) hout hRframes (by simp only [List.map_cons, List.sum_cons, hcat]; omega) hlocks
  obtain ⟨f1, f2⟩ := vx_frame hsame
  rw [hhp] at f1 f2
  have hWs : s.WarmedH U.vm := State.WarmedH.trans hW0 hW
  have hcl : s.vm.findClass cls = some ce.cls := by
    have h9 := hO.cls
    rw [hvm] at h9
    exact h9
  have hall : s.sameButNew ({ U with vm := s.vm } : State) locs mc ms := by
    subst hA
    obtain ⟨e1, e2⟩ := hsame
    rw [State.setFrames_setFrames] at e1
    have h2 : (T.setVm s.vm).sameButNew ({ U with vm := s.vm } : State) [] (0 + 1) (0 + 6) := ⟨e1, e2⟩
    have h3 := X.same.trans h2
    rw [List.append_nil] at h3
    exact h3.mono hc hs
  refine ⟨U, ?_, .threw T.heap.size, hrun, hend, Or.inr ⟨T.heap.size, rfl, cls, ce, locs, hx U hWs.alike f1 (fun q hq => f2 q hq (fun z hz => nomatch hz)), hce, hO.vm, hcl, hWs, hall, hf⟩⟩
  refine st1 _ ?_
  show Steps p.tables e below (T1.setTop { method := m, pc := pc + 3, locals := ls, stack := .ref T.heap.size :: rest, locked := none }) _
  jvm_step X₁.here [X₁.here.top, hexec, d3', Value.category]
  exact hsteps
/-- 'throw new E("text")': new; dup; ldc; invokespecial; athrow -/
theorem vx_throwS {cc : ByteArray} {pc : Nat} (hexec : p.tables.exec = Jvm.exec) (hb : c.code = cc) (hl : l.stackTraces = false) {own cls text : String} {names : List String} {ik is ic mc ms sa : Nat} {A : Nat → Prop}
    (hown : s.vm.findClass own = some m.cls) (hcls : Bundle.fit cls = true) (hnames : ∀ n ∈ names, Bundle.fit n = true)
    (hk : (Cond.classLink own ik cls).before args s = true) (hini : (Cond.initialized cls).before args s = true) (hstr : vk_R own is text sa s) (hat : ∀ w ∈ vx_atS own ic cls names, w.before args s = true)
    (hgood : ∀ w ∈ Cond.classLink own ik cls :: Cond.initialized cls :: vx_atS own ic cls names, vx_ot w = true)
    (hU : vx_Zq Bundle.tN "UNASSIGNED_STACK" Bundle.steD A s s.heap) (hN : vx_Zq Bundle.tN "SUPPRESSED_SENTINEL" Bundle.listD A s s.heap) (hS : va_S A s.heap H locs) (hsize : ls.size = c.maxLocals)
    (d0 : decode cc pc = .ok (.new ik, 3)) (d3 : decode cc (pc + 3) = .ok (.dup, 1)) (d4 : decode cc (pc + 4) = .ok (.ldc is, 2)) (d6 : decode cc (pc + 6) = .ok (.invokespecial ic, 3)) (d9 : decode cc (pc + 9) = .ok (.athrow, 1))
    (hout : ∀ x ∈ c.exceptionTable.toList, covers x (pc + 9) = false)
    (hRframes : names.length + 3 < R.frames) (hRlocals : (rest.map fun v => v.category).sum + (13 * (names.length + 1) + 43) ≤ R.locals) (hRcells : cells + 1 ≤ R.cells) (hRslots : slots + 6 ≤ R.slots) (hlocks : meth.locks = false)
    (hx : ∀ t : State, s.vm.Alike t.vm → H.size ≤ t.heap.size → (∀ q : Nat, q < H.size → t.heap[q]? = H[q]?) → XC cls s t)
    (hf : ∀ z ∈ locs, free z.base) (hc : cells + 1 ≤ mc) (hs : slots + 6 ≤ ms) :
    W p l e R s m args below meth c H locs cells slots (vx_MQ below Qc XC args s mc ms free) (F0 m pc ls rest) := by
  intro T hT X
  have htr : e.platform.stackTraces = false := (show e.platform.stackTraces = l.stackTraces by rw [X.admits.platform]).trans hl
  have Y := vx_rebase X (R' := { frames := R.frames, locals := R.locals, cells := 1, slots := 6 }) (Nat.le_refl _) (Nat.le_refl _) hRcells hRslots
  obtain ⟨s', hA⟩ : ∃ z, z = (T.setVm s.vm).setFrames (.invoking m args :: below) := ⟨_, rfl⟩
  rw [← hA] at Y
  have hvm : s'.vm = s.vm := by rw [hA]; rfl
  have hhp : s'.heap = H := by rw [hA]; exact hT
  have hW0 : s.WarmedH s'.vm := by rw [hvm]; exact State.WarmedH.refl s
  have hat' : ∀ w ∈ vx_atS own ic cls names, w.before args s' = true := fun w hw => vx_ot_at hW0 hvm.symm (hgood w (List.mem_cons_of_mem _ (List.mem_cons_of_mem _ hw))) (hat w hw)
  have hk' : (Cond.classLink own ik cls).before args s' = true := vx_ot_at hW0 hvm.symm (hgood _ List.mem_cons_self) hk
  have hini' : (Cond.initialized cls).before args s' = true := vx_ot_at hW0 hvm.symm (hgood _ (List.mem_cons_of_mem _ List.mem_cons_self)) hini
  have hU' : vx_Zq Bundle.tN "UNASSIGNED_STACK" Bundle.steD A s' s'.heap := by rw [hhp]; exact vx_Zq.moved hW0.alike (hU.kept hS.2.1)
  have hN' : vx_Zq Bundle.tN "SUPPRESSED_SENTINEL" Bundle.listD A s' s'.heap := by rw [hhp]; exact vx_Zq.moved hW0.alike (hN.kept hS.2.1)
  have h : ∀ w ∈ Bundle.ownAtoms own ic cls names, w.before args s' = true := vx_own hat' (vx_isRefq hU'.1) (vx_isRefq hN'.1) hU'.2.word hN'.2.word
  have hown' : s'.vm.findClass own = some m.cls := by rw [hvm]; exact hown
  have hins : (Cond.instantiable cls 6).before args s' = true := h _ (by simp [Bundle.ownAtoms])
  obtain ⟨vm₁, cX, kX, hfX, hkX, -, -, X₁, st1⟩ := Y.newCold hexec (own := own) (C := cls) (index := ik) (n := 6) hown' hk' hins hini'
    (g := F0 m pc ls rest) rfl (by rw [hb]; exact d0) (Nat.le_refl _) (Nat.le_refl _)
  generalize hT1 : (T.setVm vm₁).pushCell { cls := cX, slots := kX.instanceTypes.map defaultValue, vm := .none } = T1 at X₁ st1
  have hcat : (Value.ref T.heap.size).category = 1 := rfl
  have hcellA : T1.heap[T.heap.size]? = some (freshCell cX kX) := by rw [← hT1]; exact State.heap_pushCell_size _ _
  have d3' : decode c.code (pc + 3) = .ok (.dup, 1) := by rw [hb]; exact d3
  have d4' : decode c.code (pc + 4) = .ok (.ldc is, 2) := by rw [hb]; exact d4
  have hstr' : vk_R own is text sa s' := vk_R.warm hW0 hstr
  obtain ⟨U, hsteps, hrun, hend, hW, hsame, ce, hce, hO⟩ := X₁.ctorThrowS hexec htr (own := own) (cls := cls) (names := names) (ic := ic) hown' hcls hnames h (fun x hx => nomatch hx) hfX hkX hcellA (by rw [hhp, hT]; exact Nat.le_refl _) (msg := .ref sa) rfl
    (g := { method := m, pc := pc + 6, locals := ls, stack := .ref sa :: .ref T.heap.size :: .ref T.heap.size :: rest, locked := none }) rfl hsize rfl rfl (rest := rest) rfl
    (by rw [hb]; exact d6) (by rw [hb]; exact d9) hout hRframes (by simp only [List.map_cons, List.sum_cons, hcat]; omega) hlocks
  obtain ⟨f1, f2⟩ := vx_frame hsame
  rw [hhp] at f1 f2
  have hWs : s.WarmedH U.vm := State.WarmedH.trans hW0 hW
  have hcl : s.vm.findClass cls = some ce.cls := by
    have h9 := hO.cls
    rw [hvm] at h9
    exact h9
  have hall : s.sameButNew ({ U with vm := s.vm } : State) locs mc ms := by
    subst hA
    obtain ⟨e1, e2⟩ := hsame
    rw [State.setFrames_setFrames] at e1
    have h2 : (T.setVm s.vm).sameButNew ({ U with vm := s.vm } : State) [] (0 + 1) (0 + 6) := ⟨e1, e2⟩
    have h3 := X.same.trans h2
    rw [List.append_nil] at h3
    exact h3.mono hc hs
  refine ⟨U, ?_, .threw T.heap.size, hrun, hend, Or.inr ⟨T.heap.size, rfl, cls, ce, locs, hx U hWs.alike f1 (fun q hq => f2 q hq (fun z hz => nomatch hz)), hce, hO.vm, hcl, hWs, hall, hf⟩⟩
  refine st1 _ ?_
  show Steps p.tables e below (T1.setTop { method := m, pc := pc + 3, locals := ls, stack := .ref T.heap.size :: rest, locked := none }) _
  jvm_step X₁.here [X₁.here.top, hexec, d3', Value.category]
  exact X₁.ldcString hexec (own := own) (text := text) (index := is) (a := sa) hown' hstr'.1 hstr'.2
    (g := { method := m, pc := pc + 4, locals := ls, stack := .ref T.heap.size :: .ref T.heap.size :: rest, locked := none }) rfl d4' _ hsteps
/-- 'throw new E("text")', the text by a wide index -/
theorem vx_throwSW {cc : ByteArray} {pc : Nat} (hexec : p.tables.exec = Jvm.exec) (hb : c.code = cc) (hl : l.stackTraces = false) {own cls text : String} {names : List String} {ik is ic mc ms sa : Nat} {A : Nat → Prop}
    (hown : s.vm.findClass own = some m.cls) (hcls : Bundle.fit cls = true) (hnames : ∀ n ∈ names, Bundle.fit n = true)
    (hk : (Cond.classLink own ik cls).before args s = true) (hini : (Cond.initialized cls).before args s = true) (hstr : vk_R own is text sa s) (hat : ∀ w ∈ vx_atS own ic cls names, w.before args s = true)
    (hgood : ∀ w ∈ Cond.classLink own ik cls :: Cond.initialized cls :: vx_atS own ic cls names, vx_ot w = true)
    (hU : vx_Zq Bundle.tN "UNASSIGNED_STACK" Bundle.steD A s s.heap) (hN : vx_Zq Bundle.tN "SUPPRESSED_SENTINEL" Bundle.listD A s s.heap) (hS : va_S A s.heap H locs) (hsize : ls.size = c.maxLocals)
    (d0 : decode cc pc = .ok (.new ik, 3)) (d3 : decode cc (pc + 3) = .ok (.dup, 1)) (d4 : decode cc (pc + 4) = .ok (.ldc_w is, 3)) (d7 : decode cc (pc + 7) = .ok (.invokespecial ic, 3)) (d10 : decode cc (pc + 10) = .ok (.athrow, 1))
    (hout : ∀ x ∈ c.exceptionTable.toList, covers x (pc + 10) = false)
    (hRframes : names.length + 3 < R.frames) (hRlocals : (rest.map fun v => v.category).sum + (13 * (names.length + 1) + 43) ≤ R.locals) (hRcells : cells + 1 ≤ R.cells) (hRslots : slots + 6 ≤ R.slots) (hlocks : meth.locks = false)
    (hx : ∀ t : State, s.vm.Alike t.vm → H.size ≤ t.heap.size → (∀ q : Nat, q < H.size → t.heap[q]? = H[q]?) → XC cls s t)
    (hf : ∀ z ∈ locs, free z.base) (hc : cells + 1 ≤ mc) (hs : slots + 6 ≤ ms) :
    W p l e R s m args below meth c H locs cells slots (vx_MQ below Qc XC args s mc ms free) (F0 m pc ls rest) := by
  intro T hT X
  have htr : e.platform.stackTraces = false := (show e.platform.stackTraces = l.stackTraces by rw [X.admits.platform]).trans hl
  have Y := vx_rebase X (R' := { frames := R.frames, locals := R.locals, cells := 1, slots := 6 }) (Nat.le_refl _) (Nat.le_refl _) hRcells hRslots
  obtain ⟨s', hA⟩ : ∃ z, z = (T.setVm s.vm).setFrames (.invoking m args :: below) := ⟨_, rfl⟩
  rw [← hA] at Y
  have hvm : s'.vm = s.vm := by rw [hA]; rfl
  have hhp : s'.heap = H := by rw [hA]; exact hT
  have hW0 : s.WarmedH s'.vm := by rw [hvm]; exact State.WarmedH.refl s
  have hat' : ∀ w ∈ vx_atS own ic cls names, w.before args s' = true := fun w hw => vx_ot_at hW0 hvm.symm (hgood w (List.mem_cons_of_mem _ (List.mem_cons_of_mem _ hw))) (hat w hw)
  have hk' : (Cond.classLink own ik cls).before args s' = true := vx_ot_at hW0 hvm.symm (hgood _ List.mem_cons_self) hk
  have hini' : (Cond.initialized cls).before args s' = true := vx_ot_at hW0 hvm.symm (hgood _ (List.mem_cons_of_mem _ List.mem_cons_self)) hini
  have hU' : vx_Zq Bundle.tN "UNASSIGNED_STACK" Bundle.steD A s' s'.heap := by rw [hhp]; exact vx_Zq.moved hW0.alike (hU.kept hS.2.1)
  have hN' : vx_Zq Bundle.tN "SUPPRESSED_SENTINEL" Bundle.listD A s' s'.heap := by rw [hhp]; exact vx_Zq.moved hW0.alike (hN.kept hS.2.1)
  have h : ∀ w ∈ Bundle.ownAtoms own ic cls names, w.before args s' = true := vx_own hat' (vx_isRefq hU'.1) (vx_isRefq hN'.1) hU'.2.word hN'.2.word
  have hown' : s'.vm.findClass own = some m.cls := by rw [hvm]; exact hown
  have hins : (Cond.instantiable cls 6).before args s' = true := h _ (by simp [Bundle.ownAtoms])
  obtain ⟨vm₁, cX, kX, hfX, hkX, -, -, X₁, st1⟩ := Y.newCold hexec (own := own) (C := cls) (index := ik) (n := 6) hown' hk' hins hini'
    (g := F0 m pc ls rest) rfl (by rw [hb]; exact d0) (Nat.le_refl _) (Nat.le_refl _)
  generalize hT1 : (T.setVm vm₁).pushCell { cls := cX, slots := kX.instanceTypes.map defaultValue, vm := .none } = T1 at X₁ st1
  have hcat : (Value.ref T.heap.size).category = 1 := rfl
  have hcellA : T1.heap[T.heap.size]? = some (freshCell cX kX) := by rw [← hT1]; exact State.heap_pushCell_size _ _
  have d3' : decode c.code (pc + 3) = .ok (.dup, 1) := by rw [hb]; exact d3
  have d4' : decode c.code (pc + 4) = .ok (.ldc_w is, 3) := by rw [hb]; exact d4
  have hstr' : vk_R own is text sa s' := vk_R.warm hW0 hstr
  obtain ⟨U, hsteps, hrun, hend, hW, hsame, ce, hce, hO⟩ := X₁.ctorThrowS hexec htr (own := own) (cls := cls) (names := names) (ic := ic) hown' hcls hnames h (fun x hx => nomatch hx) hfX hkX hcellA (by rw [hhp, hT]; exact Nat.le_refl _) (msg := .ref sa) rfl
    (g := { method := m, pc := pc + 7, locals := ls, stack := .ref sa :: .ref T.heap.size :: .ref T.heap.size :: rest, locked := none }) rfl hsize rfl rfl (rest := rest) rfl
    (by rw [hb]; exact d7) (by rw [hb]; exact d10) hout hRframes (by simp only [List.map_cons, List.sum_cons, hcat]; omega) hlocks
  obtain ⟨f1, f2⟩ := vx_frame hsame
  rw [hhp] at f1 f2
  have hWs : s.WarmedH U.vm := State.WarmedH.trans hW0 hW
  have hcl : s.vm.findClass cls = some ce.cls := by
    have h9 := hO.cls
    rw [hvm] at h9
    exact h9
  have hall : s.sameButNew ({ U with vm := s.vm } : State) locs mc ms := by
    subst hA
    obtain ⟨e1, e2⟩ := hsame
    rw [State.setFrames_setFrames] at e1
    have h2 : (T.setVm s.vm).sameButNew ({ U with vm := s.vm } : State) [] (0 + 1) (0 + 6) := ⟨e1, e2⟩
    have h3 := X.same.trans h2
    rw [List.append_nil] at h3
    exact h3.mono hc hs
  refine ⟨U, ?_, .threw T.heap.size, hrun, hend, Or.inr ⟨T.heap.size, rfl, cls, ce, locs, hx U hWs.alike f1 (fun q hq => f2 q hq (fun z hz => nomatch hz)), hce, hO.vm, hcl, hWs, hall, hf⟩⟩
  refine st1 _ ?_
  show Steps p.tables e below (T1.setTop { method := m, pc := pc + 3, locals := ls, stack := .ref T.heap.size :: rest, locked := none }) _
  jvm_step X₁.here [X₁.here.top, hexec, d3', Value.category]
  exact X₁.ldcStringW hexec (own := own) (text := text) (index := is) (a := sa) hown' hstr'.1 hstr'.2
    (g := { method := m, pc := pc + 4, locals := ls, stack := .ref T.heap.size :: .ref T.heap.size :: rest, locked := none }) rfl d4' _ hsteps
end Ends
section Bodies
variable {l : Launch}
theorem vx_ofW {y : MethodName} {ws ws' : List Cond} {rm : Room} {Pc : Array Value → State → Prop} {Qc : Array Value → State → Outcome → State → Prop} {XC : String → State → State → Prop} {mc ms : Nat} {free : Addr → Prop} {cc : ByteArray} {maxL : Nat} {ret : Option FieldType}
    (hy : plainName y.cls = true) (hw : ws = Cond.code y cc maxL ret :: ws')
    (body : ∀ p e s m args below meth c s₁, BodyLoose p l y (headSpec ws rm) cc maxL ret e s m args below meth c s₁ → c.maxLocals = maxL → (∀ x ∈ c.exceptionTable.toList, False) → Pc args s →
      W p l e (headSpec ws rm).room s m args below meth c s.heap [] 0 0 (vx_MQ below Qc XC args s mc ms free) (entryFrame m args maxL)) : vx_Met l y ws rm Pc Qc XC mc ms free := by
  refine MetFree.of_bodyS (code := cc) (maxLocals := maxL) (ret := ret) hy ?_ ?_
  · intro args s m h hn
    obtain ⟨meth, c, h1, h2, h3, h4, h5, h6, -, -⟩ := Cond.code_spec hn (atoms_spec (ws := ws) h _ (by rw [hw]; exact List.mem_cons_self))
    exact ⟨meth, c, h1, h2, h3, h4, h5, h6⟩
  · intro p e s m args below meth c s₁ B hml hP _
    have hh0 : s₁.heap = s.heap := by rw [B.state]; rfl
    have ht : ∀ x ∈ c.exceptionTable.toList, False := by
      obtain ⟨meth9, c9, h1, h2, -, -, -, -, h7, -⟩ := Cond.code_spec B.named (atoms_spec (ws := ws) B.pre _ (by rw [hw]; exact List.mem_cons_self))
      cases Option.some.inj (h1.symm.trans B.method)
      cases Option.some.inj (h2.symm.trans (Stand.of_body B).code)
      intro x hx
      rw [Array.isEmpty_iff.mp h7] at hx
      cases hx
    obtain ⟨t, a1, o, b1, b2, b3⟩ := body p e s m args below meth c s₁ B hml ht hP s₁ hh0 (Stand.of_body B)
    exact ⟨t, o, a1, b1, b2, b3⟩
/-- the table of a body with handlers -/
theorem vx_table {p : Program} {x y : MethodName} {S : Spec} {cc bytes : ByteArray} {maxL maxL' : Nat} {ret ret' : Option FieldType} {e : Env} {s s₁ : State} {m : MethodId} {args : Array Value} {below : List Frame} {meth : Method} {c : Code} {hh : List (Nat × Nat × Nat × Nat)}
    (B : BodyLoose p l y S cc maxL ret e s m args below meth c s₁) (h : (Cond.codeWith y bytes maxL' ret' hh).before args s = true) : c.exceptionTable.toList = tableOf hh := by
  obtain ⟨m9, meth9, c9, hn9, h1, h2, -, -, h6, -⟩ := Cond.codeWith_spec h
  cases Option.some.inj (hn9.symm.trans B.named)
  cases Option.some.inj (h1.symm.trans B.method)
  cases Option.some.inj (h2.symm.trans (Stand.of_body B).code)
  rw [← h6, table_eq]
end Bodies
end VXA
/-! ===== END ===== -/
/-! ===== BEGIN a static call of a method with an exception table ===== -/
section VXS
variable {p : Program} {l : Launch} {e : Env} {R : Room} {s : State} {m : MethodId} {args : Array Value} {below : List Frame} {meth : Method} {c : Code} {T : State} {H : Heap} {locs : List Loc} {cells slots : Nat}
abbrev vx_CSW (R : Room) (s : State) (args : Array Value) (own : String) (index : Nat) (y : MethodName) (bytes : ByteArray) (maxL : Nat) (ret : Option FieldType) (hh : List (Nat × Nat × Nat × Nat)) (ws : List Cond) (rm : Room) (mc ms n : Nat) : Prop :=
  (rm.cells = mc ∧ rm.slots = ms ∧ rm.frames + 1 ≤ R.frames ∧ 8 + (maxL + 11) + rm.locals ≤ R.locals ∧ (∀ w ∈ ws, ∀ (a' : Array Value) (U : State), s.WarmedH U.vm → w.before a' U = true) ∧ Cond.codeWith y bytes maxL ret hh ∈ ws) ∧
  (Cond.codeWith y bytes maxL ret hh).before args s = true ∧ (Cond.initialized y.cls).before args s = true ∧ (y.cls ≠ "java/lang/invoke/MethodHandle" ∧ y.cls ≠ "java/lang/invoke/VarHandle") ∧
  (∀ sig, parseMethodDescriptor y.desc = some sig → n = sig.parameters.length) ∧ (Cond.methodLink own index y).before args s = true ∧ (Cond.static y).before args s = true
theorem vx_cwSW {own : String} {index maxL mc ms : Nat} {y : MethodName} {bytes : ByteArray} {ret : Option FieldType} {hh : List (Nat × Nat × Nat × Nat)} {Ts ws ws' : List Cond} {rm : Room} (n : Nat) (ht : ∀ w ∈ Ts, w.before args s = true) (hT : GoodIn Ts (va_wsS own index y ws)) (hw : ws = Cond.codeWith y bytes maxL ret hh :: ws') (hrc : rm.cells = mc) (hrs : rm.slots = ms)
    (hd : y.cls ≠ "java/lang/invoke/MethodHandle" ∧ y.cls ≠ "java/lang/invoke/VarHandle" ∧ (parseMethodDescriptor y.desc).map (fun d => d.parameters.length) = some n) (hR : rm.frames + 1 ≤ R.frames ∧ 8 + (maxL + 11) + rm.locals ≤ R.locals) :
    vx_CSW R s args own index y bytes maxL ret hh ws rm mc ms n := by
  have ok : ∀ w ∈ va_wsS own index y ws, w.before args s = true := fun w h => ht w (hT w h).1
  have hG : GoodIn Ts ws := fun w h => hT w (by unfold va_wsS; exact List.mem_append_right _ h)
  have hc : Cond.codeWith y bytes maxL ret hh ∈ ws := by rw [hw]; exact List.mem_cons_self
  refine ⟨⟨hrc, hrs, hR.1, hR.2, pay_in ht hG, hc⟩, ht _ (hG _ hc).1, ok _ (by simp [va_wsS]), ⟨hd.1, hd.2.1⟩, fun sig h => ?_, ok _ (by simp [va_wsS]), ok _ (by simp [va_wsS])⟩
  have h2 := hd.2.2
  rw [h] at h2
  exact (Option.some.inj h2).symm
theorem vx_callSW (X : Stand p l e R s m args below meth c T locs cells slots) (hexec : p.tables.exec = Jvm.exec) {own : String} {index : Nat} {y : MethodName} {bytes : ByteArray} {maxL : Nat} {ret : Option FieldType} {hh : List (Nat × Nat × Nat × Nat)}
    (hown : s.vm.findClass own = some m.cls) (hlink : (Cond.methodLink own index y).before args s = true) (hstat : (Cond.static y).before args s = true) (hinit : (Cond.initialized y.cls).before args s = true)
    (hcode : (Cond.codeWith y bytes maxL ret hh).before args s = true) (hy : y.cls ≠ "java/lang/invoke/MethodHandle" ∧ y.cls ≠ "java/lang/invoke/VarHandle")
    {W9 : Nat} {Pre : Pt → Array Value → Prop} {Post : Pt → Array Value → Option Value → Pt → Prop} (hK : Back l R p e below s args y 3 W9 Pre Post)
    {g : JFrame} (hg : g.method = m) (hsize : g.locals.size = c.maxLocals) {argsL rest : List Value} (hlen : ∀ sig, parseMethodDescriptor y.desc = some sig → argsL.length = sig.parameters.length)
    (hstack : g.stack = argsL.reverse ++ rest) (hW : 2 * g.monitorRoom + (rest.map fun v => v.category).sum ≤ W9) (hdg : decode c.code g.pc = .ok (.invokestatic index, 3))
    (hpre : ∀ vm₁, s.WarmedH vm₁ → Pre ⟨T.setVm vm₁, locs, cells, slots⟩ argsL.toArray) :
    ∃ (v : Option Value) (vm₁ : Vm) (B : Pt), s.WarmedH vm₁ ∧ Stand p l e R s m args below meth c B.U B.locs B.cells B.slots ∧ Post ⟨T.setVm vm₁, locs, cells, slots⟩ argsL.toArray v B ∧
      ∀ target, Steps p.tables e below (B.U.setTop { g with pc := g.pc + 3, stack := v.toList ++ rest }) target → Steps p.tables e below (T.setTop g) target := by
  obtain ⟨mk, methM, cM, hnamed, hmethM, -, -, -, -, -, -, hsigM⟩ := Cond.codeWith_spec hcode
  have hstatic : methM.isStatic = true := Cond.static_spec hnamed hmethM hstat
  obtain ⟨kP, hkP, -⟩ := className_of_methodNamed hnamed
  have hinitP : kP.init = .initialized := Cond.initialized_spec (findClass_of_methodNamed hnamed) hkP hinit
  obtain ⟨vm₁, X₁, hstep₁⟩ := X.invokestatic hexec hown hlink hnamed hmethM hstatic hkP hinitP hy (g := g) hg (argsL := argsL) (rest := rest) (hlen _ hsigM) hstack hdg
  obtain ⟨v, B, X', hpost, hsteps⟩ := hK m meth c ⟨T.setVm vm₁, locs, cells, slots⟩ { g with stack := rest } (.invokestatic index) mk argsL.toArray X₁ hg hsize hdg hW (X₁.named hnamed) (hpre vm₁ X₁.warmed)
  exact ⟨v, vm₁, B, X₁.warmed, X', hpost, fun target h => hstep₁ _ fun acts => by rw [doInvoke_state]; exact hsteps.trans h⟩
theorem vx_runSW {y : MethodName} {bytes cc : ByteArray} {maxL nL mc ms n index : Nat} {ret : Option FieldType} {hh : List (Nat × Nat × Nat × Nat)} {ws : List Cond} {rm : Room} {Pc : Array Value → State → Prop} {Qc : Array Value → State → Outcome → State → Prop} {free : Addr → Prop} {Ts : List Cond} {own : String} {As rest : List Value} {g : JFrame}
    (S : CallFix p m c cc nL s args Ts own) (hM : Met l y ws rm Pc Qc mc ms free) (cw : vx_CSW R s args own index y bytes maxL ret hh ws rm mc ms n) (hp : PreS s H Pc As)
    (hg : g.method = m) (hn : As.length = n) (hsize : g.locals.size = nL) (hstack : g.stack = As.reverse ++ rest) (hW : 2 * g.monitorRoom + (rest.map fun v => v.category).sum ≤ 8) (hdg : decode cc g.pc = .ok (.invokestatic index, 3)) (hf : cells + mc ≤ R.cells ∧ slots + ms ≤ R.slots) :
    va_Run p l e R s m args below meth c H locs cells slots mc ms g rest (Qc As.toArray) (free) := by
  obtain ⟨⟨hrc, hrs, hfr, hlo, hws, hcw⟩, hcode, hini, hy, hlen, hl, hstt⟩ := cw
  have hK : Back l R p e below s args y 3 8 (PreOf R mc ms Pc) (PostOf Qc mc ms free) := va_backW (hh := hh) (bytes := bytes) (maxL := maxL) (ret := ret) hM hp.1 hrc hrs hfr hlo hws hcw (fun a' U hW => word_at hW (Or.inl (by first | rfl | simp [Cond.onTables, Cond.keeps, Cond.steady])) hini)
  obtain ⟨hx, hb, hml, ho, -⟩ := S
  intro T hT X
  obtain ⟨v, vm₁, ⟨U', l2, c2, s2⟩, hW₁, X', ⟨g', mk, t, L, e1, e2, hq, h1, hL, h2, h3⟩, st⟩ := vx_callSW X hx (hh := hh) (bytes := bytes) (maxL := maxL) (ret := ret) ho hl hstt hini hcode hy hK hg (hsize.trans hml.symm) (argsL := As) (rest := rest) (fun sig h => hn.trans (hlen sig h)) hstack hW (by rw [hb]; exact hdg)
    (fun vm₁ hW₁ => ⟨hf.1, hf.2, hp.2 (T.setVm vm₁) hT hW₁⟩)
  dsimp only [Pt.U, Pt.locs, Pt.cells, Pt.slots] at X' e1 e2 h1 h2 h3 st
  subst h1; subst h2; subst h3
  exact ⟨v, (T.setVm vm₁).calling g' mk As.toArray, t, U', L, hT, X', hL, e1, e2, hq, st⟩
/-- not caught here, past rows that name other classes: it goes on to the caller -/
theorem vx_outP {p : Program} {l : Launch} {e : Env} {R : Room} {s : State} {m : MethodId} {args : Array Value} {below : List Frame} {meth : Method} {c : Code} {H : Heap} {locs : List Loc} {cells slots : Nat} {free : Addr → Prop} {ls : Array Slot} {rest : List Value} {Qc : Array Value → State → Outcome → State → Prop} {XC : String → State → State → Prop}
    {pc : Nat} {own E : String} {ce : Cell} {q : Addr} {mc ms : Nat} (hown : s.vm.findClass own = some m.cls) (hlocks : meth.locks = false)
    (hpass : ∀ z ∈ c.exceptionTable.toList, covers z pc = false ∨ (z.catchType ≠ 0 ∧ ∃ nm : String, (Cond.classLink own z.catchType nm).before args s = true ∧ va_Nc E nm s)) (hcell : H[q]? = some ce) (hv : ce.vm = .none) (hcl : s.vm.findClass E = some ce.cls)
    (hx : ∀ t : State, t.heap = H → s.vm.Alike t.vm → XC E s t) (hf : ∀ z ∈ locs, free z.base) (hc : cells ≤ mc) (hs : slots ≤ ms) :
    vx_W p l e R s m args below meth c H locs cells slots (vx_MQ below Qc XC args s mc ms free) (F0 m pc ls rest) q := by
  intro T hT X
  have hpl : e.platform.magicAccessors = ({} : Platform).magicAccessors := by rw [X.admits.platform]
  obtain ⟨vm', hW', X', st⟩ := X.outThrough hlocks q (g := F0 m pc ls rest) rfl rfl rfl (cell := ce) (by rw [hT]; exact hcell) (by rw [hv]; rfl)
    (by obtain ⟨k9, h9, -⟩ := Vm.findClass_spec hcl; exact ⟨k9, h9⟩) (fun z hz => by
      rcases hpass z hz with h | ⟨hz0, nm, hl1, hn1⟩
      · exact Or.inl h
      · obtain ⟨c6, hc6, hcl6⟩ := Cond.classLink_spec hown hl1 e.platform hpl
        obtain ⟨a8, b8, h1, h2, h3⟩ := hn1
        cases Option.some.inj (h1.symm.trans hcl)
        cases Option.some.inj (h2.symm.trans hc6)
        exact Or.inr ⟨hz0, _, hcl6, h3⟩)
  obtain ⟨g₀, hfr⟩ := X'.frames_eq
  have hcell9 : ((T.setVm vm').setFrames (.throwing q :: below)).heap[q]? = some ce := by
    show T.heap[q]? = some ce
    rw [hT]; exact hcell
  have hend : Ended ((T.setVm vm').setFrames (.throwing q :: below)) below (.threw q) := State.frames_setFrames _ (State.cur_lt_of_frames hfr)
  refine ⟨(T.setVm vm').setFrames (.throwing q :: below), ?_, .threw q, X'.here.running, hend, Or.inr ⟨q, rfl, E, ce, locs, hx _ hT (X'.ends _).1.alike, hcell9, hv, hcl, (X'.ends _).1, (X'.ends _).2.mono hc hs, hf⟩⟩
  rw [X.pushThrowing_eq]
  exact st
/-- a thing of a world lies in the heap -/
theorem vx_lt {D : va_G} {cl : List vw_C} {ws : va_W} {H1 : Heap} (h : va_P D cl ws H1) {k : Nat} {q : Nat × va_E} (hk : ws[k]? = some q) : q.1 < H1.size := (h k q hk).lt
end VXS
/-! ===== END ===== -/
/-! ===== BEGIN methods with a table of their own: called by a name, returning or throwing ===== -/
section VXH
/-! vx_backW, vx_callVX, vx_callSX, vx_callVW, vx_runVW, vx_runVX, vx_runSX, vx_ofWH follow the same proofs as their sisters above (Free/Laws.lean, Shelf42/LK1.lean); vx_outP calls Shelf42/NT130.lean (outThrough). -/
section
variable {l : Launch} {R : Room} {p : Program} {e : Env} {below : List Frame} {s : State} {sargs : Array Value} {y : MethodName} {len W9 : Nat}
theorem vx_backW {ws : List Cond} {rm : Room} {Pc : Array Value → State → Prop} {Qc : Array Value → State → Outcome → State → Prop} {XC : String → State → State → Prop} {mc ms : Nat} {free : Addr → Prop} {bytes : ByteArray} {maxL : Nat} {ret : Option FieldType} {hh : List (Nat × Nat × Nat × Nat)}
    (hM : vx_Met l y ws rm Pc Qc XC mc ms free) (hblind : FrameBlind Pc) (hrc : rm.cells = mc) (hrs : rm.slots = ms)
    (hframes : rm.frames + 1 ≤ R.frames) (hlocals : W9 + (maxL + 11) + rm.locals ≤ R.locals)
    (hws : ∀ w ∈ ws, ∀ a' U, s.WarmedH U.vm → w.before a' U = true) (hcode : Cond.codeWith y bytes maxL ret hh ∈ ws) (hinit : ∀ a' U, s.WarmedH U.vm → (Cond.initialized y.cls).before a' U = true) :
    vx_Back l R p e below s sargs y len W9 (PreOf R mc ms Pc) (PostOf Qc mc ms free) (vx_Post XC mc ms free) := by
  intro m meth c A g ig mk a X hg hsize hdg hW hn hp
  have h1 : (headSpec ws rm).pre.before a A.U = true := atoms_intro fun w hw => hws w hw _ _ X.warmed
  have h2 : (Cond.codeWith y bytes maxL ret hh).before a A.U = true := hws _ hcode _ _ X.warmed
  have h3 : (Cond.initialized y.cls).before a A.U = true := hinit _ _ X.warmed
  have h4 : A.cells + (headSpec ws rm).room.cells ≤ R.cells := by rw [show (headSpec ws rm).room.cells = mc from hrc]; exact hp.1
  have h5 : A.slots + (headSpec ws rm).room.slots ≤ R.slots := by rw [show (headSpec ws rm).room.slots = ms from hrs]; exact hp.2.1
  have hPc : Pc a (A.U.calling g mk a) := hblind _ _ _ _ hp.2.2
  obtain ⟨U, Ls, c0, s0⟩ := A
  dsimp only [Pt.U, Pt.locs, Pt.cells, Pt.slots] at h1 h2 h3 h4 h5 X hn hPc ⊢
  obtain ⟨m9, methY, cY, hn9, hmY, hcY, -, hlY, -⟩ := Cond.codeWith_spec h2
  cases Option.some.inj (hn9.symm.trans hn)
  obtain ⟨kY, hkY, -⟩ := className_of_methodNamed hn
  have hinitY : kY.init = .initialized := Cond.initialized_spec (findClass_of_methodNamed hn) hkY h3
  have h : At U g.method c below := by rw [hg]; exact X.here
  have hlocals9 : W9 + (maxL + 11) + (headSpec ws rm).room.locals ≤ R.locals := hlocals
  have happ : (headSpec ws rm).appliesLoose y e.platform (U.calling g mk a) = true :=
    Spec.appliesLoose_calling (g := g) h hdg hn hkY hinitY
      (X.room_calling (g := g) (R' := (headSpec ws rm).room) hsize hmY hcY hframes (by rw [hlY]; omega) h4 h5) h1
  obtain ⟨mid, hmid⟩ := h.above
  have hfr : (U.setTop g).frames = (.java g :: mid) ++ below := by rw [State.frames_setTop' g h.top, hmid]; rfl
  obtain ⟨o, s₂, hsteps, -, hend, hq⟩ := Steps.callFree hM p X.admits X.cas X.clock (acts := []) hfr happ hPc trivial
  have hq' : vx_Q Qc XC mc ms free a (U.calling g mk a) o s₂ := hq
  rw [State.frames_setTop' g h.top] at hend
  obtain ⟨g₀, hg0⟩ := Option.isSome_iff_exists.mp h.top
  obtain ⟨r, hr⟩ := State.topJava?_eq_some.mp hg0
  have hr' : (({ U with heap := s₂.heap, slotsUsed := s₂.slotsUsed } : State).setVm s₂.vm).frames = .java g₀ :: r := hr
  rcases hq' with ⟨hqc, L, hfe, hL⟩ | ⟨q, rfl, E, ce, L, hx, hce, hcv, hcl, hW₂, hsm, hL⟩
  · obtain ⟨⟨v, rfl⟩, hW₂, e2, q2, q3, q4, q5, q6⟩ := id hfe
    have e3 : s₂ = ({ (U.calling g mk a).setFrames s₂.frames with heap := s₂.heap, slotsUsed := s₂.slotsUsed } : State).setVm s₂.vm := by
      have : s₂ = ({ s₂ with vm := (U.calling g mk a).vm } : State).setVm s₂.vm := rfl
      rw [e2] at this
      exact this
    obtain ⟨c₂, i₂, len₂, hc₂, hd₂, hf₂⟩ := hend
    have hW' : U.WarmedH s₂.vm := hW₂
    have hcc : c₂ = c := by
      have h1 : s₂.code? g.method = U.code? g.method := by
        rw [State.code?_eq, State.code?_eq, hW'.alike.method?]
      exact Option.some.inj (hc₂.symm.trans (h1.trans h.code))
    subst hcc
    have hlen : len₂ = len := by rw [hdg] at hd₂; cases hd₂; rfl
    subst hlen
    have hs₂ : s₂ = (({ U with heap := s₂.heap, slotsUsed := s₂.slotsUsed } : State).setVm s₂.vm).setTop { g with pc := g.pc + len₂, stack := v.toList ++ g.stack } := by
      refine e3.trans ?_
      rw [hf₂, State.calling_eq h.top, State.setFrames_setFrames, State.setTop_of_frames _ hr', hr]
      rfl
    have hsame : U.sameButNew ({ U with heap := s₂.heap, slotsUsed := s₂.slotsUsed } : State) L mc ms := by
      refine ⟨?_, q2, q3, q4, q5, q6⟩
      obtain ⟨t, ht, -⟩ := State.frames_cons hr
      show ({ U with heap := s₂.heap, slotsUsed := s₂.slotsUsed } : State) = { U.setFrames U.frames with heap := s₂.heap, slotsUsed := s₂.slotsUsed }
      rw [State.setFrames_self ht]
    subst hg
    refine Or.inl ⟨v, ⟨(({ U with heap := s₂.heap, slotsUsed := s₂.slotsUsed } : State).setVm s₂.vm), Ls ++ L, c0 + mc, s0 + ms⟩,
      ⟨X.admits, X.cas, X.clock, X.frames, X.room, X.hears, X.method, X.code, (X.here.setHeapUsed s₂.heap s₂.slotsUsed).setVm hW'.alike, X.tail, State.WarmedH.trans X.warmed hW', X.limits, X.bytes, X.same.trans (hsame.setVm s.vm)⟩,
      ⟨g, mk, s₂, L, rfl, rfl, hqc, rfl, hL, rfl, rfl⟩, ?_⟩
    show Steps p.tables e below _ ((({ U with heap := s₂.heap, slotsUsed := s₂.slotsUsed } : State).setVm s₂.vm).setTop { g with pc := g.pc + len₂, stack := v.toList ++ g.stack })
    rw [← hs₂]
    exact hsteps
  · obtain ⟨e2, q2, q3, q4, q5, q6⟩ := id hsm
    have e3 : s₂ = ({ (U.calling g mk a).setFrames s₂.frames with heap := s₂.heap, slotsUsed := s₂.slotsUsed } : State).setVm s₂.vm := by
      have : s₂ = ({ s₂ with vm := (U.calling g mk a).vm } : State).setVm s₂.vm := rfl
      rw [e2] at this
      exact this
    have hf₂ : s₂.frames = .throwing q :: .java g :: U.frames.tail := hend
    have hW' : U.WarmedH s₂.vm := hW₂
    have hs₂ : s₂ = ((({ U with heap := s₂.heap, slotsUsed := s₂.slotsUsed } : State).setVm s₂.vm).setTop g).pushFrame (.throwing q) := by
      refine e3.trans ?_
      rw [hf₂, State.calling_eq h.top, State.setFrames_setFrames, State.pushFrame, State.frames_setTop _ hr', State.setTop_of_frames _ hr', State.setFrames_setFrames, hr]
      rfl
    have hsame : U.sameButNew ({ U with heap := s₂.heap, slotsUsed := s₂.slotsUsed } : State) L mc ms := by
      refine ⟨?_, q2, q3, q4, q5, q6⟩
      obtain ⟨t, ht, -⟩ := State.frames_cons hr
      show ({ U with heap := s₂.heap, slotsUsed := s₂.slotsUsed } : State) = { U.setFrames U.frames with heap := s₂.heap, slotsUsed := s₂.slotsUsed }
      rw [State.setFrames_self ht]
    subst hg
    refine Or.inr ⟨q, ⟨(({ U with heap := s₂.heap, slotsUsed := s₂.slotsUsed } : State).setVm s₂.vm), Ls ++ L, c0 + mc, s0 + ms⟩,
      ⟨X.admits, X.cas, X.clock, X.frames, X.room, X.hears, X.method, X.code, (X.here.setHeapUsed s₂.heap s₂.slotsUsed).setVm hW'.alike, X.tail, State.WarmedH.trans X.warmed hW', X.limits, X.bytes, X.same.trans (hsame.setVm s.vm)⟩,
      ⟨g, mk, s₂, L, E, ce, rfl, rfl, hx, hce, hcv, hcl, rfl, hL, rfl, rfl⟩, ?_⟩
    show Steps p.tables e below _ (((({ U with heap := s₂.heap, slotsUsed := s₂.slotsUsed } : State).setVm s₂.vm).setTop g).pushFrame (.throwing q))
    rw [← hs₂]
    exact hsteps
end
variable {p : Program} {l : Launch} {e : Env} {R : Room} {s : State} {m : MethodId} {args : Array Value} {below : List Frame} {meth : Method} {c : Code} {T : State} {H : Heap} {locs : List Loc} {cells slots : Nat}
theorem vx_callVX (X : Stand p l e R s m args below meth c T locs cells slots) (hexec : p.tables.exec = Jvm.exec) {own C : String} {index : Nat} {y : MethodName} {bytes : ByteArray} {maxL : Nat} {ret : Option FieldType} {hh : List (Nat × Nat × Nat × Nat)}
    (hown : s.vm.findClass own = some m.cls) (hlink : (Cond.methodLink own index y).before args s = true) (hinst : (Cond.instanceMethod y).before args s = true) (hsel : (Cond.selects C y y).before args s = true)
    (hcode : (Cond.codeWith y bytes maxL ret hh).before args s = true) (hy : y.cls ≠ "java/lang/invoke/MethodHandle" ∧ y.cls ≠ "java/lang/invoke/VarHandle")
    {W9 : Nat} {Pre : Pt → Array Value → Prop} {Post : Pt → Array Value → Option Value → Pt → Prop} {PostX : Pt → Array Value → Addr → Pt → Prop} (hK : vx_Back l R p e below s args y 3 W9 Pre Post PostX)
    {b : Addr} {cellB : Cell} (hcell : T.heap[b]? = some cellB) (hobj : cellB.vm.isStatics = false) (hcls : s.vm.findClass C = some cellB.cls)
    {g : JFrame} (hg : g.method = m) (hsize : g.locals.size = c.maxLocals) {argsL rest : List Value} (hlen : ∀ sig, parseMethodDescriptor y.desc = some sig → argsL.length = sig.parameters.length)
    (hstack : g.stack = argsL.reverse ++ .ref b :: rest) (hW : 2 * g.monitorRoom + (rest.map fun v => v.category).sum ≤ W9) (hdg : decode c.code g.pc = .ok (.invokevirtual index, 3))
    (hpre : ∀ vm₁, s.WarmedH vm₁ → Pre ⟨T.setVm vm₁, locs, cells, slots⟩ (Value.ref b :: argsL).toArray) :
    (∃ (v : Option Value) (vm₁ : Vm) (B : Pt), s.WarmedH vm₁ ∧ Stand p l e R s m args below meth c B.U B.locs B.cells B.slots ∧ Post ⟨T.setVm vm₁, locs, cells, slots⟩ (Value.ref b :: argsL).toArray v B ∧
      ∀ target, Steps p.tables e below (B.U.setTop { g with pc := g.pc + 3, stack := v.toList ++ rest }) target → Steps p.tables e below (T.setTop g) target) ∨
    (∃ (q : Addr) (vm₁ : Vm) (B : Pt), s.WarmedH vm₁ ∧ Stand p l e R s m args below meth c B.U B.locs B.cells B.slots ∧ PostX ⟨T.setVm vm₁, locs, cells, slots⟩ (Value.ref b :: argsL).toArray q B ∧
      Steps p.tables e below (T.setTop g) ((B.U.setTop { g with stack := rest }).pushFrame (.throwing q))) := by
  obtain ⟨mk, methM, hnamed, hmethM, hstM, habM⟩ := Cond.instanceMethod_spec hinst
  obtain ⟨m8, methM', cM, hn8, hmethM', -, -, -, -, -, -, hsigM⟩ := Cond.codeWith_spec hcode
  cases Option.some.inj (hn8.symm.trans hnamed)
  cases hmethM.symm.trans hmethM'
  obtain ⟨c2, r2, m2, q1, q2, q3, q4, kP, hkP, hkPi⟩ := Cond.selects_spec hsel
  cases hcls.symm.trans q1
  cases (State.methodFound?_of_named hnamed hy).symm.trans q2
  cases hnamed.symm.trans q3
  have hselP : selectMethod e.platform s.vm cellB.cls mk = .method mk := by rw [Launch.admits_selectMethod X.admits]; exact q4
  obtain ⟨vm₁, X₁, hstep₁⟩ := X.invokevirtual hexec hown hlink hnamed hmethM hstM hkP hkPi hy (a := b) (cell := cellB) hcell
    (fun z h => by rw [h] at hobj; cases hobj) hselP hmethM habM hkP hkPi (g := g) hg (argsL := argsL) (rest := rest) (hlen _ hsigM) hstack hdg
  rcases hK m meth c ⟨T.setVm vm₁, locs, cells, slots⟩ { g with stack := rest } (.invokevirtual index) mk (Value.ref b :: argsL).toArray X₁ hg hsize hdg hW (X₁.named hnamed) (hpre vm₁ X₁.warmed) with ⟨v, B, X', hpost, hsteps⟩ | ⟨q, B, X', hpost, hsteps⟩
  · exact Or.inl ⟨v, vm₁, B, X₁.warmed, X', hpost, fun target h => hstep₁ _ fun acts => by rw [doInvoke_state]; exact hsteps.trans h⟩
  · exact Or.inr ⟨q, vm₁, B, X₁.warmed, X', hpost, hstep₁ _ fun acts => by rw [doInvoke_state]; exact hsteps⟩
theorem vx_callSX (X : Stand p l e R s m args below meth c T locs cells slots) (hexec : p.tables.exec = Jvm.exec) {own : String} {index : Nat} {y : MethodName} {bytes : ByteArray} {maxL : Nat} {ret : Option FieldType} {hh : List (Nat × Nat × Nat × Nat)}
    (hown : s.vm.findClass own = some m.cls) (hlink : (Cond.methodLink own index y).before args s = true) (hstat : (Cond.static y).before args s = true) (hinit : (Cond.initialized y.cls).before args s = true)
    (hcode : (Cond.codeWith y bytes maxL ret hh).before args s = true) (hy : y.cls ≠ "java/lang/invoke/MethodHandle" ∧ y.cls ≠ "java/lang/invoke/VarHandle")
    {W9 : Nat} {Pre : Pt → Array Value → Prop} {Post : Pt → Array Value → Option Value → Pt → Prop} {PostX : Pt → Array Value → Addr → Pt → Prop} (hK : vx_Back l R p e below s args y 3 W9 Pre Post PostX)
    {g : JFrame} (hg : g.method = m) (hsize : g.locals.size = c.maxLocals) {argsL rest : List Value} (hlen : ∀ sig, parseMethodDescriptor y.desc = some sig → argsL.length = sig.parameters.length)
    (hstack : g.stack = argsL.reverse ++ rest) (hW : 2 * g.monitorRoom + (rest.map fun v => v.category).sum ≤ W9) (hdg : decode c.code g.pc = .ok (.invokestatic index, 3))
    (hpre : ∀ vm₁, s.WarmedH vm₁ → Pre ⟨T.setVm vm₁, locs, cells, slots⟩ argsL.toArray) :
    (∃ (v : Option Value) (vm₁ : Vm) (B : Pt), s.WarmedH vm₁ ∧ Stand p l e R s m args below meth c B.U B.locs B.cells B.slots ∧ Post ⟨T.setVm vm₁, locs, cells, slots⟩ argsL.toArray v B ∧
      ∀ target, Steps p.tables e below (B.U.setTop { g with pc := g.pc + 3, stack := v.toList ++ rest }) target → Steps p.tables e below (T.setTop g) target) ∨
    (∃ (q : Addr) (vm₁ : Vm) (B : Pt), s.WarmedH vm₁ ∧ Stand p l e R s m args below meth c B.U B.locs B.cells B.slots ∧ PostX ⟨T.setVm vm₁, locs, cells, slots⟩ argsL.toArray q B ∧
      Steps p.tables e below (T.setTop g) ((B.U.setTop { g with stack := rest }).pushFrame (.throwing q))) := by
  obtain ⟨mk, methM, cM, hnamed, hmethM, -, -, -, -, -, -, hsigM⟩ := Cond.codeWith_spec hcode
  have hstatic : methM.isStatic = true := Cond.static_spec hnamed hmethM hstat
  obtain ⟨kP, hkP, -⟩ := className_of_methodNamed hnamed
  have hinitP : kP.init = .initialized := Cond.initialized_spec (findClass_of_methodNamed hnamed) hkP hinit
  obtain ⟨vm₁, X₁, hstep₁⟩ := X.invokestatic hexec hown hlink hnamed hmethM hstatic hkP hinitP hy (g := g) hg (argsL := argsL) (rest := rest) (hlen _ hsigM) hstack hdg
  rcases hK m meth c ⟨T.setVm vm₁, locs, cells, slots⟩ { g with stack := rest } (.invokestatic index) mk argsL.toArray X₁ hg hsize hdg hW (X₁.named hnamed) (hpre vm₁ X₁.warmed) with ⟨v, B, X', hpost, hsteps⟩ | ⟨q, B, X', hpost, hsteps⟩
  · exact Or.inl ⟨v, vm₁, B, X₁.warmed, X', hpost, fun target h => hstep₁ _ fun acts => by rw [doInvoke_state]; exact hsteps.trans h⟩
  · exact Or.inr ⟨q, vm₁, B, X₁.warmed, X', hpost, hstep₁ _ fun acts => by rw [doInvoke_state]; exact hsteps⟩
theorem vx_callVW (X : Stand p l e R s m args below meth c T locs cells slots) (hexec : p.tables.exec = Jvm.exec) {own C : String} {index : Nat} {y : MethodName} {bytes : ByteArray} {maxL : Nat} {ret : Option FieldType} {hh : List (Nat × Nat × Nat × Nat)}
    (hown : s.vm.findClass own = some m.cls) (hlink : (Cond.methodLink own index y).before args s = true) (hinst : (Cond.instanceMethod y).before args s = true) (hsel : (Cond.selects C y y).before args s = true)
    (hcode : (Cond.codeWith y bytes maxL ret hh).before args s = true) (hy : y.cls ≠ "java/lang/invoke/MethodHandle" ∧ y.cls ≠ "java/lang/invoke/VarHandle")
    {W9 : Nat} {Pre : Pt → Array Value → Prop} {Post : Pt → Array Value → Option Value → Pt → Prop} (hK : Back l R p e below s args y 3 W9 Pre Post)
    {b : Addr} {cellB : Cell} (hcell : T.heap[b]? = some cellB) (hobj : cellB.vm.isStatics = false) (hcls : s.vm.findClass C = some cellB.cls)
    {g : JFrame} (hg : g.method = m) (hsize : g.locals.size = c.maxLocals) {argsL rest : List Value} (hlen : ∀ sig, parseMethodDescriptor y.desc = some sig → argsL.length = sig.parameters.length)
    (hstack : g.stack = argsL.reverse ++ .ref b :: rest) (hW : 2 * g.monitorRoom + (rest.map fun v => v.category).sum ≤ W9) (hdg : decode c.code g.pc = .ok (.invokevirtual index, 3))
    (hpre : ∀ vm₁, s.WarmedH vm₁ → Pre ⟨T.setVm vm₁, locs, cells, slots⟩ (Value.ref b :: argsL).toArray) :
    ∃ (v : Option Value) (vm₁ : Vm) (B : Pt), s.WarmedH vm₁ ∧ Stand p l e R s m args below meth c B.U B.locs B.cells B.slots ∧ Post ⟨T.setVm vm₁, locs, cells, slots⟩ (Value.ref b :: argsL).toArray v B ∧
      ∀ target, Steps p.tables e below (B.U.setTop { g with pc := g.pc + 3, stack := v.toList ++ rest }) target → Steps p.tables e below (T.setTop g) target := by
  obtain ⟨mk, methM, hnamed, hmethM, hstM, habM⟩ := Cond.instanceMethod_spec hinst
  obtain ⟨m8, methM', cM, hn8, hmethM', -, -, -, -, -, -, hsigM⟩ := Cond.codeWith_spec hcode
  cases Option.some.inj (hn8.symm.trans hnamed)
  cases hmethM.symm.trans hmethM'
  obtain ⟨c2, r2, m2, q1, q2, q3, q4, kP, hkP, hkPi⟩ := Cond.selects_spec hsel
  cases hcls.symm.trans q1
  cases (State.methodFound?_of_named hnamed hy).symm.trans q2
  cases hnamed.symm.trans q3
  have hselP : selectMethod e.platform s.vm cellB.cls mk = .method mk := by rw [Launch.admits_selectMethod X.admits]; exact q4
  obtain ⟨vm₁, X₁, hstep₁⟩ := X.invokevirtual hexec hown hlink hnamed hmethM hstM hkP hkPi hy (a := b) (cell := cellB) hcell
    (fun z h => by rw [h] at hobj; cases hobj) hselP hmethM habM hkP hkPi (g := g) hg (argsL := argsL) (rest := rest) (hlen _ hsigM) hstack hdg
  obtain ⟨v, B, X', hpost, hsteps⟩ := hK m meth c ⟨T.setVm vm₁, locs, cells, slots⟩ { g with stack := rest } (.invokevirtual index) mk (Value.ref b :: argsL).toArray X₁ hg hsize hdg hW (X₁.named hnamed) (hpre vm₁ X₁.warmed)
  exact ⟨v, vm₁, B, X₁.warmed, X', hpost, fun target h => hstep₁ _ fun acts => by rw [doInvoke_state]; exact hsteps.trans h⟩
abbrev vx_CVW (R : Room) (s : State) (args : Array Value) (own C : String) (index : Nat) (y : MethodName) (bytes : ByteArray) (maxL : Nat) (ret : Option FieldType) (hh : List (Nat × Nat × Nat × Nat)) (ws : List Cond) (rm : Room) (mc ms n : Nat) : Prop :=
  (rm.cells = mc ∧ rm.slots = ms ∧ rm.frames + 1 ≤ R.frames ∧ 8 + (maxL + 11) + rm.locals ≤ R.locals ∧ (∀ w ∈ ws, ∀ (a' : Array Value) (U : State), s.WarmedH U.vm → w.before a' U = true) ∧ Cond.codeWith y bytes maxL ret hh ∈ ws) ∧
  (Cond.codeWith y bytes maxL ret hh).before args s = true ∧ (Cond.initialized y.cls).before args s = true ∧ (y.cls ≠ "java/lang/invoke/MethodHandle" ∧ y.cls ≠ "java/lang/invoke/VarHandle") ∧
  (∀ sig, parseMethodDescriptor y.desc = some sig → n = sig.parameters.length) ∧ (Cond.methodLink own index y).before args s = true ∧ (Cond.instanceMethod y).before args s = true ∧ (Cond.selects C y y).before args s = true
theorem vx_cwVW {own C : String} {index maxL mc ms : Nat} {y : MethodName} {bytes : ByteArray} {ret : Option FieldType} {hh : List (Nat × Nat × Nat × Nat)} {Ts ws ws' : List Cond} {rm : Room} (n : Nat) (ht : ∀ w ∈ Ts, w.before args s = true) (hT : GoodIn Ts (wsV own index C y ws)) (hw : ws = Cond.codeWith y bytes maxL ret hh :: ws') (hrc : rm.cells = mc) (hrs : rm.slots = ms)
    (hd : y.cls = C ∧ y.cls ≠ "java/lang/invoke/MethodHandle" ∧ y.cls ≠ "java/lang/invoke/VarHandle" ∧ (parseMethodDescriptor y.desc).map (fun d => d.parameters.length) = some n) (hR : rm.frames + 1 ≤ R.frames ∧ 8 + (maxL + 11) + rm.locals ≤ R.locals) :
    vx_CVW R s args own C index y bytes maxL ret hh ws rm mc ms n := by
  obtain ⟨hC, hd⟩ := hd
  subst hC
  have ok : ∀ w ∈ wsV own index y.cls y ws, w.before args s = true := fun w h => ht w (hT w h).1
  have hG : GoodIn Ts ws := fun w h => hT w (by unfold wsV; exact List.mem_append_right _ h)
  have hc : Cond.codeWith y bytes maxL ret hh ∈ ws := by rw [hw]; exact List.mem_cons_self
  refine ⟨⟨hrc, hrs, hR.1, hR.2, pay_in ht hG, hc⟩, ht _ (hG _ hc).1, ok _ (by simp [wsV]), ⟨hd.1, hd.2.1⟩, fun sig h => ?_, ok _ (by simp [wsV]), ok _ (by simp [wsV]), ok _ (by simp [wsV])⟩
  have h2 := hd.2.2
  rw [h] at h2
  exact (Option.some.inj h2).symm
theorem vx_runVW {y : MethodName} {bytes cc : ByteArray} {maxL nL mc ms n index : Nat} {ret : Option FieldType} {hh : List (Nat × Nat × Nat × Nat)} {ws : List Cond} {rm : Room} {Pc : Array Value → State → Prop} {Qc : Array Value → State → Outcome → State → Prop} {free : Addr → Prop} {Ts : List Cond} {own C : String} {b : Addr} {As rest : List Value} {g : JFrame}
    (S : CallFix p m c cc nL s args Ts own) (hM : Met l y ws rm Pc Qc mc ms free) (cw : vx_CVW R s args own C index y bytes maxL ret hh ws rm mc ms n) (hp : PreV s H C b Pc As)
    (hg : g.method = m) (hn : As.length = n) (hsize : g.locals.size = nL) (hstack : g.stack = As.reverse ++ .ref b :: rest) (hW : 2 * g.monitorRoom + (rest.map fun v => v.category).sum ≤ 8) (hdg : decode cc g.pc = .ok (.invokevirtual index, 3)) (hf : cells + mc ≤ R.cells ∧ slots + ms ≤ R.slots) :
    va_Run p l e R s m args below meth c H locs cells slots mc ms g rest (Qc (Value.ref b :: As).toArray) free := by
  obtain ⟨⟨hrc, hrs, hfr, hlo, hws, hcw⟩, hcode, hini, hy, hlen, hl, hin, hse⟩ := cw
  have hK : Back l R p e below s args y 3 8 (PreOf R mc ms Pc) (PostOf Qc mc ms free) := va_backW (hh := hh) (bytes := bytes) (maxL := maxL) (ret := ret) hM hp.1 hrc hrs hfr hlo hws hcw (fun a' U hW => word_at hW (Or.inl (by first | rfl | simp [Cond.onTables, Cond.keeps, Cond.steady])) hini)
  obtain ⟨hx, hb, hml, ho, -⟩ := S
  obtain ⟨-, ⟨cellB, hcB, hoB, hclB⟩, hPc⟩ := hp
  intro T hT X
  obtain ⟨v, vm₁, ⟨U', l2, c2, s2⟩, hW₁, X', ⟨g', mk, t, L, e1, e2, hq, h1, hL, h2, h3⟩, st⟩ := vx_callVW X hx (C := C) (hh := hh) (bytes := bytes) (maxL := maxL) (ret := ret) ho hl hin hse hcode hy hK (by rw [hT]; exact hcB) hoB hclB hg (hsize.trans hml.symm) (argsL := As) (rest := rest) (fun sig h => hn.trans (hlen sig h)) hstack hW (by rw [hb]; exact hdg)
    (fun vm₁ hW₁ => ⟨hf.1, hf.2, hPc (T.setVm vm₁) hT hW₁⟩)
  dsimp only [Pt.U, Pt.locs, Pt.cells, Pt.slots] at X' e1 e2 h1 h2 h3 st
  subst h1; subst h2; subst h3
  exact ⟨v, (T.setVm vm₁).calling g' mk (Value.ref b :: As).toArray, t, U', L, hT, X', hL, e1, e2, hq, st⟩
section
variable {y : MethodName} {bytes cc : ByteArray} {maxL nL mc ms n index : Nat} {ret : Option FieldType} {ws : List Cond} {rm : Room} {Pc : Array Value → State → Prop} {Qc : Array Value → State → Outcome → State → Prop} {XC : String → State → State → Prop} {free : Addr → Prop} {Ts : List Cond} {own C : String} {b : Addr} {As rest : List Value} {g : JFrame}
theorem vx_runVX {hh : List (Nat × Nat × Nat × Nat)} (S : CallFix p m c cc nL s args Ts own) (hM : vx_Met l y ws rm Pc Qc XC mc ms free) (cw : vx_CVW R s args own C index y bytes maxL ret hh ws rm mc ms n) (hp : PreV s H C b Pc As)
    (hg : g.method = m) (hn : As.length = n) (hsize : g.locals.size = nL) (hstack : g.stack = As.reverse ++ .ref b :: rest) (hW : 2 * g.monitorRoom + (rest.map fun v => v.category).sum ≤ 8) (hdg : decode cc g.pc = .ok (.invokevirtual index, 3)) (hf : cells + mc ≤ R.cells ∧ slots + ms ≤ R.slots) :
    vx_Run p l e R s m args below meth c H locs cells slots mc ms g rest (Qc (Value.ref b :: As).toArray) XC free := by
  obtain ⟨⟨hrc, hrs, hfr, hlo, hws, hcw⟩, hcode, hini, hy, hlen, hl, hin, hse⟩ := cw
  have hK : vx_Back l R p e below s args y 3 8 (PreOf R mc ms Pc) (PostOf Qc mc ms free) (vx_Post XC mc ms free) := vx_backW (hh := hh) (bytes := bytes) (maxL := maxL) (ret := ret) hM hp.1 hrc hrs hfr hlo hws hcw (fun a' U hW => word_at hW (Or.inl (by first | rfl | simp [Cond.onTables, Cond.keeps, Cond.steady])) hini)
  obtain ⟨hx, hb, hml, ho, -⟩ := S
  obtain ⟨-, ⟨cellB, hcB, hoB, hclB⟩, hPc⟩ := hp
  intro T hT X
  rcases vx_callVX X hx (C := C) (hh := hh) (bytes := bytes) (maxL := maxL) (ret := ret) ho hl hin hse hcode hy hK (by rw [hT]; exact hcB) hoB hclB hg (hsize.trans hml.symm) (argsL := As) (rest := rest) (fun sig h => hn.trans (hlen sig h)) hstack hW (by rw [hb]; exact hdg)
    (fun vm₁ hW₁ => ⟨hf.1, hf.2, hPc (T.setVm vm₁) hT hW₁⟩) with ⟨v, vm₁, ⟨U', l2, c2, s2⟩, hW₁, X', ⟨g', mk, t, L, e1, e2, hq, h1, hL, h2, h3⟩, st⟩ | ⟨q, vm₁, ⟨U', l2, c2, s2⟩, hW₁, X', ⟨g', mk, t, L, E, ce, e1, e2, hq, hce, hcv, hcl, h1, hL, h2, h3⟩, st⟩
  · dsimp only [Pt.U, Pt.locs, Pt.cells, Pt.slots] at X' e1 e2 h1 h2 h3 st
    subst h1; subst h2; subst h3
    exact Or.inl ⟨v, (T.setVm vm₁).calling g' mk (Value.ref b :: As).toArray, t, U', L, hT, X', hL, e1, e2, hq, st⟩
  · dsimp only [Pt.U, Pt.locs, Pt.cells, Pt.slots] at X' e1 e2 h1 h2 h3 st hcl
    subst h1; subst h2; subst h3
    exact Or.inr ⟨q, (T.setVm vm₁).calling g' mk (Value.ref b :: As).toArray, t, U', L, E, ce, hT, X', hL, e1, e2, hq, hce, hcv, vx_cls hW₁ hcl, st⟩
theorem vx_runSX {hh : List (Nat × Nat × Nat × Nat)} (S : CallFix p m c cc nL s args Ts own) (hM : vx_Met l y ws rm Pc Qc XC mc ms free) (cw : vx_CSW R s args own index y bytes maxL ret hh ws rm mc ms n) (hp : PreS s H Pc As)
    (hg : g.method = m) (hn : As.length = n) (hsize : g.locals.size = nL) (hstack : g.stack = As.reverse ++ rest) (hW : 2 * g.monitorRoom + (rest.map fun v => v.category).sum ≤ 8) (hdg : decode cc g.pc = .ok (.invokestatic index, 3)) (hf : cells + mc ≤ R.cells ∧ slots + ms ≤ R.slots) :
    vx_Run p l e R s m args below meth c H locs cells slots mc ms g rest (Qc As.toArray) XC free := by
  obtain ⟨⟨hrc, hrs, hfr, hlo, hws, hcw⟩, hcode, hini, hy, hlen, hl, hstt⟩ := cw
  have hK : vx_Back l R p e below s args y 3 8 (PreOf R mc ms Pc) (PostOf Qc mc ms free) (vx_Post XC mc ms free) := vx_backW (hh := hh) (bytes := bytes) (maxL := maxL) (ret := ret) hM hp.1 hrc hrs hfr hlo hws hcw (fun a' U hW => word_at hW (Or.inl (by first | rfl | simp [Cond.onTables, Cond.keeps, Cond.steady])) hini)
  obtain ⟨hx, hb, hml, ho, -⟩ := S
  intro T hT X
  rcases vx_callSX X hx (hh := hh) (bytes := bytes) (maxL := maxL) (ret := ret) ho hl hstt hini hcode hy hK hg (hsize.trans hml.symm) (argsL := As) (rest := rest) (fun sig h => hn.trans (hlen sig h)) hstack hW (by rw [hb]; exact hdg)
    (fun vm₁ hW₁ => ⟨hf.1, hf.2, hp.2 (T.setVm vm₁) hT hW₁⟩) with ⟨v, vm₁, ⟨U', l2, c2, s2⟩, hW₁, X', ⟨g', mk, t, L, e1, e2, hq, h1, hL, h2, h3⟩, st⟩ | ⟨q, vm₁, ⟨U', l2, c2, s2⟩, hW₁, X', ⟨g', mk, t, L, E, ce, e1, e2, hq, hce, hcv, hcl, h1, hL, h2, h3⟩, st⟩
  · dsimp only [Pt.U, Pt.locs, Pt.cells, Pt.slots] at X' e1 e2 h1 h2 h3 st
    subst h1; subst h2; subst h3
    exact Or.inl ⟨v, (T.setVm vm₁).calling g' mk As.toArray, t, U', L, hT, X', hL, e1, e2, hq, st⟩
  · dsimp only [Pt.U, Pt.locs, Pt.cells, Pt.slots] at X' e1 e2 h1 h2 h3 st hcl
    subst h1; subst h2; subst h3
    exact Or.inr ⟨q, (T.setVm vm₁).calling g' mk As.toArray, t, U', L, E, ce, hT, X', hL, e1, e2, hq, hce, hcv, vx_cls hW₁ hcl, st⟩
end
end VXH
theorem vx_ofWH {l : Launch} {y : MethodName} {ws ws' : List Cond} {rm : Room} {Pc : Array Value → State → Prop} {Qc : Array Value → State → Outcome → State → Prop} {XC : String → State → State → Prop} {mc ms : Nat} {free : Addr → Prop} {cc : ByteArray} {maxL : Nat} {ret : Option FieldType} {hh : List (Nat × Nat × Nat × Nat)}
    (hy : plainName y.cls = true) (hw : ws = Cond.codeWith y cc maxL ret hh :: ws')
    (body : ∀ p e s m args below meth c s₁, BodyLoose p l y (headSpec ws rm) cc maxL ret e s m args below meth c s₁ → c.maxLocals = maxL → Pc args s →
      W p l e (headSpec ws rm).room s m args below meth c s.heap [] 0 0 (vx_MQ below Qc XC args s mc ms free) (entryFrame m args maxL)) : vx_Met l y ws rm Pc Qc XC mc ms free := by
  refine MetFree.of_bodyS (code := cc) (maxLocals := maxL) (ret := ret) hy ?_ ?_
  · intro args s m h hn
    obtain ⟨m9, meth, c, hn9, h1, h2, h3, h4, -, h5, h6, -⟩ := Cond.codeWith_spec (atoms_spec (ws := ws) h _ (by rw [hw]; exact List.mem_cons_self))
    cases hn.symm.trans hn9
    exact ⟨meth, c, h1, h2, h3, h4, h5, h6⟩
  · intro p e s m args below meth c s₁ B hml hP _
    have hh0 : s₁.heap = s.heap := by rw [B.state]; rfl
    obtain ⟨t, a1, o, b1, b2, b3⟩ := body p e s m args below meth c s₁ B hml hP s₁ hh0 (Stand.of_body B)
    exact ⟨t, o, a1, b1, b2, b3⟩
/-! ===== END ===== -/

/-! ===== BEGIN printed: names, fields, word lists, decode rows ===== -/
def RX0 : String := "BatchClasses$FailureLog"
def TX0 : u_T := fun k => match k with
  | 0 => ("BatchClasses$FailureLog", "count", "I", false)
  | 1 => ("BatchClasses$FailureLog", "ofRecord", "[I", true)
  | 2 => ("BatchClasses$FailureLog", "ofKind", "[I", true)
  | _ => ("BatchClasses$FailureLog", "ofClass", "[I", true)
def tyX0 : Nat → FieldType := fun k => match k with
  | 0 => .int
  | 1 => .array .int
  | 2 => .array .int
  | _ => .array .int
abbrev wsX00 : List Cond := u_ws RX0 TX0 4
theorem nmX0 : ∀ a, a < 4 → ∀ b, b < 4 → a ≠ b → (TX0 a).2.1 ≠ (TX0 b).2.1 := by decide +kernel
theorem tyX0_ok : ∀ k, k < 4 → parseFieldDescriptor (TX0 k).2.2.1 = some (tyX0 k) := by decide +kernel
abbrev cX0_init : ByteArray := prog_2_method_1_code
def yX0_init : MethodName := ⟨RX0, "<init>", "()V"⟩
abbrev cX0_note : ByteArray := prog_2_method_2_code
def yX0_note : MethodName := ⟨RX0, "note", "(III)V"⟩
abbrev cX0_look : ByteArray := prog_2_method_3_code
def yX0_look : MethodName := ⟨RX0, "look", "(II)I"⟩
def RX1 : String := "BatchClasses$Trial"
def TX1 : u_T := fun k => match k with
  | 0 => ("BatchClasses$Trial", "a", "J", false)
  | 1 => ("BatchClasses$Trial", "b", "J", false)
  | 2 => ("BatchClasses$Trial", "c", "J", false)
  | 3 => ("BatchClasses$Trial", "d", "J", false)
  | 4 => ("BatchClasses$Trial", "cell", "J", false)
  | _ => ("BatchClasses$Trial", "locks", "Z", false)
def tyX1 : Nat → FieldType := fun k => match k with
  | 0 => .long
  | 1 => .long
  | 2 => .long
  | 3 => .long
  | 4 => .long
  | _ => .boolean
abbrev wsX10 : List Cond := u_ws RX1 TX1 6
theorem nmX1 : ∀ a, a < 6 → ∀ b, b < 6 → a ≠ b → (TX1 a).2.1 ≠ (TX1 b).2.1 := by decide +kernel
theorem tyX1_ok : ∀ k, k < 6 → parseFieldDescriptor (TX1 k).2.2.1 = some (tyX1 k) := by decide +kernel
abbrev cX1_init : ByteArray := prog_3_method_1_code
def yX1_init : MethodName := ⟨RX1, "<init>", "()V"⟩
abbrev cX1_load : ByteArray := prog_3_method_2_code
def yX1_load : MethodName := ⟨RX1, "load", "([JIJ)V"⟩
abbrev cX1_store : ByteArray := prog_3_method_3_code
def yX1_store : MethodName := ⟨RX1, "store", "([JI)V"⟩
abbrev cX1_countOthers : ByteArray := prog_3_method_4_code
def yX1_countOthers : MethodName := ⟨RX1, "countOthers", "([JI)I"⟩
abbrev cX1_perform : ByteArray := prog_3_method_5_code
def yX1_perform : MethodName := ⟨RX1, "perform", "(II)I"⟩
abbrev cX1_change : ByteArray := prog_3_method_6_code
def yX1_change : MethodName := ⟨RX1, "change", "(I)I"⟩
abbrev cX1_swap : ByteArray := prog_3_method_7_code
def yX1_swap : MethodName := ⟨RX1, "swap", "()V"⟩
def RX2 : String := "BatchClasses"
def TX2 : u_T := fun k => match k with
  | 0 => ("BatchClasses", "steps", "I", true)
  | 1 => ("BatchClasses", "trial", "LBatchClasses$Trial;", true)
  | 2 => ("BatchClasses", "log", "LBatchClasses$FailureLog;", true)
  | 3 => ("BatchClasses", "types", "I", false)
  | 4 => ("BatchClasses", "programs", "[I", true)
  | 5 => ("BatchClasses", "startFailing", "[Z", true)
  | 6 => ("BatchClasses", "classes", "I", false)
  | 7 => ("BatchClasses", "typeOf", "[I", true)
  | 8 => ("BatchClasses", "cells", "[J", true)
  | 9 => ("BatchClasses", "greatestDone", "[I", true)
  | 10 => ("BatchClasses", "records", "I", false)
  | 11 => ("BatchClasses", "fields", "[J", true)
  | 12 => ("BatchClasses", "locked", "[Z", true)
  | 13 => ("BatchClasses", "doneBy", "[J", true)
  | 14 => ("BatchClasses", "latestRecord", "I", false)
  | _ => ("BatchClasses", "latestDone", "Z", false)
def tyX2 : Nat → FieldType := fun k => match k with
  | 0 => .int
  | 1 => .object "BatchClasses$Trial"
  | 2 => .object "BatchClasses$FailureLog"
  | 3 => .int
  | 4 => .array .int
  | 5 => .array .boolean
  | 6 => .int
  | 7 => .array .int
  | 8 => .array .long
  | 9 => .array .int
  | 10 => .int
  | 11 => .array .long
  | 12 => .array .boolean
  | 13 => .array .long
  | 14 => .int
  | _ => .boolean
abbrev wsX20 : List Cond := u_ws RX2 TX2 16
theorem nmX2 : ∀ a, a < 16 → ∀ b, b < 16 → a ≠ b → (TX2 a).2.1 ≠ (TX2 b).2.1 := by decide +kernel
theorem tyX2_ok : ∀ k, k < 16 → parseFieldDescriptor (TX2 k).2.2.1 = some (tyX2 k) := by decide +kernel
abbrev cX2_init : ByteArray := prog_1_method_1_code
def yX2_init : MethodName := ⟨RX2, "<init>", "(I)V"⟩
abbrev cX2_type : ByteArray := prog_1_method_2_code
def yX2_type : MethodName := ⟨RX2, "type", "(IZ)I"⟩
abbrev cX2_make : ByteArray := prog_1_method_3_code
def yX2_make : MethodName := ⟨RX2, "make", "(I)I"⟩
abbrev cX2_record : ByteArray := prog_1_method_4_code
def yX2_record : MethodName := ⟨RX2, "record", "(IJ)I"⟩
abbrev cX2_run : ByteArray := prog_1_method_5_code
def yX2_run : MethodName := ⟨RX2, "run", "(II)I"⟩
abbrev cX2_value : ByteArray := prog_1_method_6_code
def yX2_value : MethodName := ⟨RX2, "value", "(II)J"⟩
abbrev cX2_failed : ByteArray := prog_1_method_7_code
def yX2_failed : MethodName := ⟨RX2, "failed", "(II)I"⟩
abbrev cX2_cell : ByteArray := prog_1_method_8_code
def yX2_cell : MethodName := ⟨RX2, "cell", "(I)J"⟩
abbrev cX2_same : ByteArray := prog_1_method_9_code
def yX2_same : MethodName := ⟨RX2, "same", "(II)Z"⟩
abbrev cX2_resume : ByteArray := prog_1_method_10_code
def yX2_resume : MethodName := ⟨RX2, "resume", "(I)I"⟩
abbrev cX2_divide : ByteArray := prog_1_method_11_code
def yX2_divide : MethodName := ⟨RX2, "divide", "(IJJ)J"⟩
abbrev cX2_dry : ByteArray := prog_1_method_12_code
def yX2_dry : MethodName := ⟨RX2, "dry", "(II)I"⟩
abbrev cX2_isClass : ByteArray := prog_1_method_14_code
def yX2_isClass : MethodName := ⟨RX2, "isClass", "(I)Z"⟩
abbrev cX2_isRecord : ByteArray := prog_1_method_15_code
def yX2_isRecord : MethodName := ⟨RX2, "isRecord", "(I)Z"⟩
abbrev cX2_isField : ByteArray := prog_1_method_16_code
def yX2_isField : MethodName := ⟨RX2, "isField", "(I)Z"⟩
abbrev cX2_runOne : ByteArray := prog_1_method_17_code
def yX2_runOne : MethodName := ⟨RX2, "runOne", "(II)I"⟩
abbrev cX2_attempt : ByteArray := prog_1_method_18_code
def yX2_attempt : MethodName := ⟨RX2, "attempt", "(II)I"⟩
abbrev cX2_keep : ByteArray := prog_1_method_19_code
def yX2_keep : MethodName := ⟨RX2, "keep", "(II)V"⟩
def RX3 : String := "BatchClassesModel"
def TX3 : u_T := fun k => match k with
  | _ => ("", "", "", false)
def tyX3 : Nat → FieldType := fun k => match k with
  | _ => .int
abbrev wsX30 : List Cond := u_ws RX3 TX3 0
theorem nmX3 : ∀ a, a < 0 → ∀ b, b < 0 → a ≠ b → (TX3 a).2.1 ≠ (TX3 b).2.1 := by decide +kernel
theorem tyX3_ok : ∀ k, k < 0 → parseFieldDescriptor (TX3 k).2.2.1 = some (tyX3 k) := by decide +kernel
def RJ13 : String := "java/lang/Long"
def TJ13 : u_T := fun k => match k with
  | _ => ("", "", "", false)
def tyJ13 : Nat → FieldType := fun k => match k with
  | _ => .int
abbrev wsJ130 : List Cond := u_ws RJ13 TJ13 0
theorem nmJ13 : ∀ a, a < 0 → ∀ b, b < 0 → a ≠ b → (TJ13 a).2.1 ≠ (TJ13 b).2.1 := by decide +kernel
theorem tyJ13_ok : ∀ k, k < 0 → parseFieldDescriptor (TJ13 k).2.2.1 = some (tyJ13 k) := by decide +kernel
def RJ9 : String := "java/lang/Math"
def TJ9 : u_T := fun k => match k with
  | _ => ("", "", "", false)
def tyJ9 : Nat → FieldType := fun k => match k with
  | _ => .int
abbrev wsJ90 : List Cond := u_ws RJ9 TJ9 0
theorem nmJ9 : ∀ a, a < 0 → ∀ b, b < 0 → a ≠ b → (TJ9 a).2.1 ≠ (TJ9 b).2.1 := by decide +kernel
theorem tyJ9_ok : ∀ k, k < 0 → parseFieldDescriptor (TJ9 k).2.2.1 = some (tyJ9 k) := by decide +kernel
abbrev cJ9_max_7cf53 : ByteArray := prog_10_method_65_code
def yJ9_max_7cf53 : MethodName := ⟨RJ9, "max", "(II)I"⟩
abbrev cJ9_min_7cf53 : ByteArray := prog_10_method_69_code
def yJ9_min_7cf53 : MethodName := ⟨RJ9, "min", "(II)I"⟩
def RJ0 : String := "java/lang/String"
def TJ0 : u_T := fun k => match k with
  | _ => ("", "", "", false)
def tyJ0 : Nat → FieldType := fun k => match k with
  | _ => .int
abbrev wsJ00 : List Cond := u_ws RJ0 TJ0 0
theorem nmJ0 : ∀ a, a < 0 → ∀ b, b < 0 → a ≠ b → (TJ0 a).2.1 ≠ (TJ0 b).2.1 := by decide +kernel
theorem tyJ0_ok : ∀ k, k < 0 → parseFieldDescriptor (TJ0 k).2.2.1 = some (tyJ0 k) := by decide +kernel
def RL : String := "BatchClassesLaw"
abbrev cL_cell : ByteArray := method_2_code
def yL_cell : MethodName := ⟨RL, "cell", "([II)I"⟩
abbrev cL_divide : ByteArray := method_3_code
def yL_divide : MethodName := ⟨RL, "divide", "(LBatchClasses;IJJ[J)I"⟩
abbrev cL_law : ByteArray := code
def yL_law : MethodName := ⟨RL, "law", "([I)Z"⟩
def wsX0_init : List Cond := .code yX0_init cX0_init 1 none :: ([.methodLink RX0 3 objectInit, .instanceMethod objectInit, .code objectInit ⟨#[0xb1]⟩ 1 none, .fieldLink RX0 9 "BatchClasses$FailureLog" "count" "I", .arrayClass .int, .fieldLink RX0 15 "BatchClasses$FailureLog" "ofRecord" "[I", .fieldLink RX0 19 "BatchClasses$FailureLog" "ofKind" "[I", .fieldLink RX0 22 "BatchClasses$FailureLog" "ofClass" "[I"] ++ wsX00)
def wsX0_note : List Cond := .code yX0_note cX0_note 4 none :: ([.fieldLink RX0 9 "BatchClasses$FailureLog" "count" "I", .fieldLink RX0 15 "BatchClasses$FailureLog" "ofRecord" "[I", .fieldLink RX0 19 "BatchClasses$FailureLog" "ofKind" "[I", .fieldLink RX0 22 "BatchClasses$FailureLog" "ofClass" "[I"] ++ wsX00)
def wsX0_look : List Cond := .code yX0_look cX0_look 3 (some .int) :: ([.fieldLink RX0 9 "BatchClasses$FailureLog" "count" "I", .fieldLink RX0 15 "BatchClasses$FailureLog" "ofRecord" "[I", .fieldLink RX0 19 "BatchClasses$FailureLog" "ofKind" "[I", .fieldLink RX0 22 "BatchClasses$FailureLog" "ofClass" "[I"] ++ wsX00)
def wsX1_init : List Cond := .code yX1_init cX1_init 1 none :: ([.methodLink RX1 3 objectInit, .instanceMethod objectInit, .code objectInit ⟨#[0xb1]⟩ 1 none, .fieldLink RX1 9 "BatchClasses$Trial" "a" "J", .fieldLink RX1 15 "BatchClasses$Trial" "b" "J", .fieldLink RX1 18 "BatchClasses$Trial" "c" "J", .fieldLink RX1 21 "BatchClasses$Trial" "d" "J", .fieldLink RX1 24 "BatchClasses$Trial" "cell" "J", .fieldLink RX1 27 "BatchClasses$Trial" "locks" "Z"] ++ wsX10)
def wsX1_load : List Cond := .code yX1_load cX1_load 5 none :: ([.fieldLink RX1 9 "BatchClasses$Trial" "a" "J", .fieldLink RX1 15 "BatchClasses$Trial" "b" "J", .fieldLink RX1 18 "BatchClasses$Trial" "c" "J", .fieldLink RX1 21 "BatchClasses$Trial" "d" "J", .fieldLink RX1 24 "BatchClasses$Trial" "cell" "J", .fieldLink RX1 27 "BatchClasses$Trial" "locks" "Z"] ++ wsX10)
def wsX1_store : List Cond := .code yX1_store cX1_store 3 none :: ([.fieldLink RX1 9 "BatchClasses$Trial" "a" "J", .fieldLink RX1 15 "BatchClasses$Trial" "b" "J", .fieldLink RX1 18 "BatchClasses$Trial" "c" "J", .fieldLink RX1 21 "BatchClasses$Trial" "d" "J"] ++ wsX10)
def wsX1_countOthers : List Cond := .code yX1_countOthers cX1_countOthers 3 (some .int) :: ([.fieldLink RX1 9 "BatchClasses$Trial" "a" "J", .fieldLink RX1 15 "BatchClasses$Trial" "b" "J", .fieldLink RX1 18 "BatchClasses$Trial" "c" "J", .fieldLink RX1 21 "BatchClasses$Trial" "d" "J"] ++ wsX10)
def wsX1_swap : List Cond := .code yX1_swap cX1_swap 3 none :: ([.fieldLink RX1 9 "BatchClasses$Trial" "a" "J", .fieldLink RX1 15 "BatchClasses$Trial" "b" "J"] ++ wsX10)
def wsX1_change : List Cond := .code yX1_change cX1_change 2 (some .int) :: ([.fieldLink RX1 9 "BatchClasses$Trial" "a" "J", .constantLong RX1 35 (2), .fieldLink RX1 15 "BatchClasses$Trial" "b" "J", .fieldLink RX1 27 "BatchClasses$Trial" "locks" "Z", .fieldLink RX1 24 "BatchClasses$Trial" "cell" "J", .fieldLink RX1 21 "BatchClasses$Trial" "d" "J", .fieldLink RX1 18 "BatchClasses$Trial" "c" "J", .methodLink RX1 37 yX1_swap, .instanceMethod yX1_swap, .selects RX1 yX1_swap yX1_swap, .initialized RX1, .code yX1_swap cX1_swap 3 none] ++ wsX10)
def wsX1_perform : List Cond := .code yX1_perform cX1_perform 7 (some .int) :: ([.fieldLink RX1 9 "BatchClasses$Trial" "a" "J", .fieldLink RX1 18 "BatchClasses$Trial" "c" "J", .methodLink RX1 31 yX1_change, .instanceMethod yX1_change, .selects RX1 yX1_change yX1_change, .initialized RX1, .code yX1_change cX1_change 2 (some .int), .constantLong RX1 35 (2), .fieldLink RX1 15 "BatchClasses$Trial" "b" "J", .fieldLink RX1 27 "BatchClasses$Trial" "locks" "Z", .fieldLink RX1 24 "BatchClasses$Trial" "cell" "J", .fieldLink RX1 21 "BatchClasses$Trial" "d" "J", .methodLink RX1 37 yX1_swap, .instanceMethod yX1_swap, .selects RX1 yX1_swap yX1_swap, .code yX1_swap cX1_swap 3 none] ++ wsX10)
def wsX2_init_r1 : List Cond := [Cond.methodLink RX2 1 objectInit, Cond.instanceMethod objectInit, Cond.code objectInit ⟨#[0xb1]⟩ 1 none, Cond.classLink RX2 7 RX1, Cond.instantiable RX1 6, Cond.initialized RX1, Cond.fieldLink RX2 10 "BatchClasses" "trial" "LBatchClasses$Trial;", Cond.classLink RX2 16 RX0, Cond.instantiable RX0 4, Cond.initialized RX0, Cond.fieldLink RX2 19 "BatchClasses" "log" "LBatchClasses$FailureLog;", Cond.fieldLink RX2 23 "BatchClasses" "types" "I", Cond.arrayClass .int, Cond.fieldLink RX2 27 "BatchClasses" "programs" "[I", Cond.arrayClass .boolean, Cond.fieldLink RX2 31 "BatchClasses" "startFailing" "[Z", Cond.fieldLink RX2 35 "BatchClasses" "classes" "I", Cond.fieldLink RX2 38 "BatchClasses" "typeOf" "[I", Cond.arrayClass .long, Cond.fieldLink RX2 41 "BatchClasses" "cells" "[J", Cond.fieldLink RX2 45 "BatchClasses" "greatestDone" "[I", Cond.fieldLink RX2 48 "BatchClasses" "records" "I", Cond.fieldLink RX2 51 "BatchClasses" "fields" "[J", Cond.fieldLink RX2 54 "BatchClasses" "locked" "[Z"]
def wsX2_init_r2 : List Cond := [Cond.fieldLink RX2 57 "BatchClasses" "doneBy" "[J", Cond.fieldLink RX2 60 "BatchClasses" "latestRecord" "I", Cond.fieldLink RX2 63 "BatchClasses" "latestDone" "Z", Cond.methodLink RX2 67 Lib.Math.min.name, Cond.static Lib.Math.min.name, Cond.initialized "java/lang/Math", Cond.code Lib.Math.min.name Lib.Math.min.code 2 (some .int), Cond.methodLink RX2 73 Lib.Math.max.name, Cond.static Lib.Math.max.name, Cond.code Lib.Math.max.name Lib.Math.max.code 2 (some .int), Cond.fieldLink RX2 76 "BatchClasses" "steps" "I", Cond.instanceMethod yX1_init, Cond.code yX1_init cX1_init 1 none, Cond.methodLink RX1 3 objectInit, Cond.fieldLink RX1 9 "BatchClasses$Trial" "a" "J", Cond.fieldLink RX1 15 "BatchClasses$Trial" "b" "J", Cond.fieldLink RX1 18 "BatchClasses$Trial" "c" "J", Cond.fieldLink RX1 21 "BatchClasses$Trial" "d" "J", Cond.fieldLink RX1 24 "BatchClasses$Trial" "cell" "J", Cond.fieldLink RX1 27 "BatchClasses$Trial" "locks" "Z", Cond.instanceMethod yX0_init, Cond.code yX0_init cX0_init 1 none, Cond.methodLink RX0 3 objectInit, Cond.fieldLink RX0 9 "BatchClasses$FailureLog" "count" "I"]
def wsX2_init_r3 : List Cond := [Cond.fieldLink RX0 15 "BatchClasses$FailureLog" "ofRecord" "[I", Cond.fieldLink RX0 19 "BatchClasses$FailureLog" "ofKind" "[I", Cond.fieldLink RX0 22 "BatchClasses$FailureLog" "ofClass" "[I"]
def wsX2_init : List Cond := .code yX2_init cX2_init 2 none :: ((wsX2_init_r1 ++ (wsX2_init_r2 ++ wsX2_init_r3)) ++ wsX10 ++ wsX20 ++ wsX00)
def wsX2_type : List Cond := .code yX2_type cX2_type 3 (some .int) :: ([.fieldLink RX2 23 "BatchClasses" "types" "I", .fieldLink RX2 27 "BatchClasses" "programs" "[I", .fieldLink RX2 31 "BatchClasses" "startFailing" "[Z"] ++ wsX20)
def wsX2_make : List Cond := .code yX2_make cX2_make 2 (some .int) :: ([.fieldLink RX2 23 "BatchClasses" "types" "I", .fieldLink RX2 31 "BatchClasses" "startFailing" "[Z", .fieldLink RX2 35 "BatchClasses" "classes" "I", .fieldLink RX2 38 "BatchClasses" "typeOf" "[I"] ++ wsX20)
def wsX2_isField : List Cond := .code yX2_isField cX2_isField 1 (some .boolean) :: ([])
def wsX2_record : List Cond := .code yX2_record cX2_record 4 (some .int) :: ([.fieldLink RX2 48 "BatchClasses" "records" "I", .fieldLink RX2 51 "BatchClasses" "fields" "[J", .methodLink RX2 79 yX2_isField, .static yX2_isField, .initialized RX2, .code yX2_isField cX2_isField 1 (some .boolean)] ++ wsX20)
def wsX2_isClass : List Cond := .code yX2_isClass cX2_isClass 2 (some .boolean) :: ([.fieldLink RX2 35 "BatchClasses" "classes" "I"] ++ wsX20)
def wsX2_isRecord : List Cond := .code yX2_isRecord cX2_isRecord 2 (some .boolean) :: ([.fieldLink RX2 48 "BatchClasses" "records" "I"] ++ wsX20)
def wsX2_attempt_r1 : List Cond := [Cond.fieldLink RX2 54 "BatchClasses" "locked" "[Z", Cond.fieldLink RX2 10 "BatchClasses" "trial" "LBatchClasses$Trial;", Cond.fieldLink RX2 51 "BatchClasses" "fields" "[J", Cond.fieldLink RX2 41 "BatchClasses" "cells" "[J", Cond.fieldLink RX2 27 "BatchClasses" "programs" "[I", Cond.fieldLink RX2 38 "BatchClasses" "typeOf" "[I", Cond.fieldLink RX2 76 "BatchClasses" "steps" "I", Cond.instanceMethod yX1_load, Cond.initialized RX1, Cond.selects RX1 yX1_load yX1_load, Cond.code yX1_load cX1_load 5 none, Cond.fieldLink RX1 9 "BatchClasses$Trial" "a" "J", Cond.fieldLink RX1 15 "BatchClasses$Trial" "b" "J", Cond.fieldLink RX1 18 "BatchClasses$Trial" "c" "J", Cond.fieldLink RX1 21 "BatchClasses$Trial" "d" "J", Cond.fieldLink RX1 24 "BatchClasses$Trial" "cell" "J", Cond.fieldLink RX1 27 "BatchClasses$Trial" "locks" "Z", Cond.instanceMethod yX1_perform, Cond.selects RX1 yX1_perform yX1_perform, Cond.code yX1_perform cX1_perform 7 (some .int), Cond.methodLink RX1 31 yX1_change, Cond.instanceMethod yX1_change, Cond.selects RX1 yX1_change yX1_change, Cond.code yX1_change cX1_change 2 (some .int)]
def wsX2_attempt_r2 : List Cond := [Cond.constantLong RX1 35 (2), Cond.methodLink RX1 37 yX1_swap, Cond.instanceMethod yX1_swap, Cond.selects RX1 yX1_swap yX1_swap, Cond.code yX1_swap cX1_swap 3 none]
def wsX2_attempt : List Cond := .code yX2_attempt cX2_attempt 3 (some .int) :: ((wsX2_attempt_r1 ++ wsX2_attempt_r2) ++ wsX20 ++ wsX10)
def wsX2_keep : List Cond := .code yX2_keep cX2_keep 3 none :: ([.fieldLink RX2 10 "BatchClasses" "trial" "LBatchClasses$Trial;", .fieldLink RX2 51 "BatchClasses" "fields" "[J", .fieldLink RX2 41 "BatchClasses" "cells" "[J", .fieldLink RX2 54 "BatchClasses" "locked" "[Z", .fieldLink RX2 57 "BatchClasses" "doneBy" "[J", .fieldLink RX2 45 "BatchClasses" "greatestDone" "[I", .methodLink RX2 73 Lib.Math.max.name, .static Lib.Math.max.name, .initialized "java/lang/Math", .code Lib.Math.max.name Lib.Math.max.code 2 (some .int), .instanceMethod yX1_store, .initialized RX1, .selects RX1 yX1_store yX1_store, .code yX1_store cX1_store 3 none, .fieldLink RX1 9 "BatchClasses$Trial" "a" "J", .fieldLink RX1 15 "BatchClasses$Trial" "b" "J", .fieldLink RX1 18 "BatchClasses$Trial" "c" "J", .fieldLink RX1 21 "BatchClasses$Trial" "d" "J"] ++ wsX20 ++ wsX10)
def wsX2_runOne_r1 : List Cond := [Cond.fieldLink RX2 60 "BatchClasses" "latestRecord" "I", Cond.fieldLink RX2 63 "BatchClasses" "latestDone" "Z", Cond.fieldLink RX2 19 "BatchClasses" "log" "LBatchClasses$FailureLog;", Cond.methodLink RX2 102 yX2_attempt, Cond.instanceMethod yX2_attempt, Cond.selects RX2 yX2_attempt yX2_attempt, Cond.initialized RX2, Cond.code yX2_attempt cX2_attempt 3 (some .int), Cond.fieldLink RX2 54 "BatchClasses" "locked" "[Z", Cond.fieldLink RX2 10 "BatchClasses" "trial" "LBatchClasses$Trial;", Cond.fieldLink RX2 51 "BatchClasses" "fields" "[J", Cond.fieldLink RX2 41 "BatchClasses" "cells" "[J", Cond.fieldLink RX2 27 "BatchClasses" "programs" "[I", Cond.fieldLink RX2 38 "BatchClasses" "typeOf" "[I", Cond.fieldLink RX2 76 "BatchClasses" "steps" "I", Cond.instanceMethod yX1_load, Cond.initialized RX1, Cond.selects RX1 yX1_load yX1_load, Cond.code yX1_load cX1_load 5 none, Cond.fieldLink RX1 9 "BatchClasses$Trial" "a" "J", Cond.fieldLink RX1 15 "BatchClasses$Trial" "b" "J", Cond.fieldLink RX1 18 "BatchClasses$Trial" "c" "J", Cond.fieldLink RX1 21 "BatchClasses$Trial" "d" "J", Cond.fieldLink RX1 24 "BatchClasses$Trial" "cell" "J"]
def wsX2_runOne_r2 : List Cond := [Cond.fieldLink RX1 27 "BatchClasses$Trial" "locks" "Z", Cond.instanceMethod yX1_perform, Cond.selects RX1 yX1_perform yX1_perform, Cond.code yX1_perform cX1_perform 7 (some .int), Cond.methodLink RX1 31 yX1_change, Cond.instanceMethod yX1_change, Cond.selects RX1 yX1_change yX1_change, Cond.code yX1_change cX1_change 2 (some .int), Cond.constantLong RX1 35 (2), Cond.methodLink RX1 37 yX1_swap, Cond.instanceMethod yX1_swap, Cond.selects RX1 yX1_swap yX1_swap, Cond.code yX1_swap cX1_swap 3 none, Cond.methodLink RX2 120 yX2_keep, Cond.instanceMethod yX2_keep, Cond.selects RX2 yX2_keep yX2_keep, Cond.code yX2_keep cX2_keep 3 none, Cond.fieldLink RX2 57 "BatchClasses" "doneBy" "[J", Cond.fieldLink RX2 45 "BatchClasses" "greatestDone" "[I", Cond.methodLink RX2 73 Lib.Math.max.name, Cond.static Lib.Math.max.name, Cond.initialized "java/lang/Math", Cond.code Lib.Math.max.name Lib.Math.max.code 2 (some .int), Cond.instanceMethod yX1_store]
def wsX2_runOne_r3 : List Cond := [Cond.selects RX1 yX1_store yX1_store, Cond.code yX1_store cX1_store 3 none, Cond.instanceMethod yX0_note, Cond.initialized RX0, Cond.selects RX0 yX0_note yX0_note, Cond.code yX0_note cX0_note 4 none, Cond.fieldLink RX0 9 "BatchClasses$FailureLog" "count" "I", Cond.fieldLink RX0 15 "BatchClasses$FailureLog" "ofRecord" "[I", Cond.fieldLink RX0 19 "BatchClasses$FailureLog" "ofKind" "[I", Cond.fieldLink RX0 22 "BatchClasses$FailureLog" "ofClass" "[I"]
def wsX2_runOne : List Cond := .code yX2_runOne cX2_runOne 4 (some .int) :: ((wsX2_runOne_r1 ++ (wsX2_runOne_r2 ++ wsX2_runOne_r3)) ++ wsX20 ++ wsX10 ++ wsX00)
def wsX2_run_r1 : List Cond := [Cond.methodLink RX2 83 yX2_isClass, Cond.instanceMethod yX2_isClass, Cond.selects RX2 yX2_isClass yX2_isClass, Cond.initialized RX2, Cond.code yX2_isClass cX2_isClass 2 (some .boolean), Cond.fieldLink RX2 35 "BatchClasses" "classes" "I", Cond.methodLink RX2 86 yX2_isRecord, Cond.instanceMethod yX2_isRecord, Cond.selects RX2 yX2_isRecord yX2_isRecord, Cond.code yX2_isRecord cX2_isRecord 2 (some .boolean), Cond.fieldLink RX2 48 "BatchClasses" "records" "I", Cond.methodLink RX2 89 yX2_runOne, Cond.instanceMethod yX2_runOne, Cond.selects RX2 yX2_runOne yX2_runOne, Cond.code yX2_runOne cX2_runOne 4 (some .int), Cond.fieldLink RX2 60 "BatchClasses" "latestRecord" "I", Cond.fieldLink RX2 63 "BatchClasses" "latestDone" "Z", Cond.fieldLink RX2 19 "BatchClasses" "log" "LBatchClasses$FailureLog;", Cond.methodLink RX2 102 yX2_attempt, Cond.instanceMethod yX2_attempt, Cond.selects RX2 yX2_attempt yX2_attempt, Cond.code yX2_attempt cX2_attempt 3 (some .int), Cond.fieldLink RX2 54 "BatchClasses" "locked" "[Z", Cond.fieldLink RX2 10 "BatchClasses" "trial" "LBatchClasses$Trial;"]
def wsX2_run_r2 : List Cond := [Cond.fieldLink RX2 51 "BatchClasses" "fields" "[J", Cond.fieldLink RX2 41 "BatchClasses" "cells" "[J", Cond.fieldLink RX2 27 "BatchClasses" "programs" "[I", Cond.fieldLink RX2 38 "BatchClasses" "typeOf" "[I", Cond.fieldLink RX2 76 "BatchClasses" "steps" "I", Cond.instanceMethod yX1_load, Cond.initialized RX1, Cond.selects RX1 yX1_load yX1_load, Cond.code yX1_load cX1_load 5 none, Cond.fieldLink RX1 9 "BatchClasses$Trial" "a" "J", Cond.fieldLink RX1 15 "BatchClasses$Trial" "b" "J", Cond.fieldLink RX1 18 "BatchClasses$Trial" "c" "J", Cond.fieldLink RX1 21 "BatchClasses$Trial" "d" "J", Cond.fieldLink RX1 24 "BatchClasses$Trial" "cell" "J", Cond.fieldLink RX1 27 "BatchClasses$Trial" "locks" "Z", Cond.instanceMethod yX1_perform, Cond.selects RX1 yX1_perform yX1_perform, Cond.code yX1_perform cX1_perform 7 (some .int), Cond.methodLink RX1 31 yX1_change, Cond.instanceMethod yX1_change, Cond.selects RX1 yX1_change yX1_change, Cond.code yX1_change cX1_change 2 (some .int), Cond.constantLong RX1 35 (2), Cond.methodLink RX1 37 yX1_swap]
def wsX2_run_r3 : List Cond := [Cond.instanceMethod yX1_swap, Cond.selects RX1 yX1_swap yX1_swap, Cond.code yX1_swap cX1_swap 3 none, Cond.methodLink RX2 120 yX2_keep, Cond.instanceMethod yX2_keep, Cond.selects RX2 yX2_keep yX2_keep, Cond.code yX2_keep cX2_keep 3 none, Cond.fieldLink RX2 57 "BatchClasses" "doneBy" "[J", Cond.fieldLink RX2 45 "BatchClasses" "greatestDone" "[I", Cond.methodLink RX2 73 Lib.Math.max.name, Cond.static Lib.Math.max.name, Cond.initialized "java/lang/Math", Cond.code Lib.Math.max.name Lib.Math.max.code 2 (some .int), Cond.instanceMethod yX1_store, Cond.selects RX1 yX1_store yX1_store, Cond.code yX1_store cX1_store 3 none, Cond.instanceMethod yX0_note, Cond.initialized RX0, Cond.selects RX0 yX0_note yX0_note, Cond.code yX0_note cX0_note 4 none, Cond.fieldLink RX0 9 "BatchClasses$FailureLog" "count" "I", Cond.fieldLink RX0 15 "BatchClasses$FailureLog" "ofRecord" "[I", Cond.fieldLink RX0 19 "BatchClasses$FailureLog" "ofKind" "[I", Cond.fieldLink RX0 22 "BatchClasses$FailureLog" "ofClass" "[I"]
def wsX2_run : List Cond := .code yX2_run cX2_run 4 (some .int) :: ((wsX2_run_r1 ++ (wsX2_run_r2 ++ wsX2_run_r3)) ++ wsX20 ++ wsX10 ++ wsX00)
def wsX2_value : List Cond := .code yX2_value cX2_value 3 (some .long) :: ([.fieldLink RX2 51 "BatchClasses" "fields" "[J", .methodLink RX2 86 yX2_isRecord, .instanceMethod yX2_isRecord, .selects RX2 yX2_isRecord yX2_isRecord, .initialized RX2, .code yX2_isRecord cX2_isRecord 2 (some .boolean), .fieldLink RX2 48 "BatchClasses" "records" "I", .methodLink RX2 79 yX2_isField, .static yX2_isField, .code yX2_isField cX2_isField 1 (some .boolean)] ++ wsX20)
def wsX2_failed : List Cond := .code yX2_failed cX2_failed 3 (some .int) :: ([.fieldLink RX2 19 "BatchClasses" "log" "LBatchClasses$FailureLog;", .instanceMethod yX0_look, .initialized RX0, .selects RX0 yX0_look yX0_look, .code yX0_look cX0_look 3 (some .int), .fieldLink RX0 9 "BatchClasses$FailureLog" "count" "I", .fieldLink RX0 15 "BatchClasses$FailureLog" "ofRecord" "[I", .fieldLink RX0 19 "BatchClasses$FailureLog" "ofKind" "[I", .fieldLink RX0 22 "BatchClasses$FailureLog" "ofClass" "[I"] ++ wsX20 ++ wsX00)
def wsX2_cell : List Cond := .code yX2_cell cX2_cell 2 (some .long) :: ([.fieldLink RX2 41 "BatchClasses" "cells" "[J", .methodLink RX2 83 yX2_isClass, .instanceMethod yX2_isClass, .selects RX2 yX2_isClass yX2_isClass, .initialized RX2, .code yX2_isClass cX2_isClass 2 (some .boolean), .fieldLink RX2 35 "BatchClasses" "classes" "I"] ++ wsX20)
def wsX2_same : List Cond := .code yX2_same cX2_same 3 (some .boolean) :: ([.fieldLink RX2 38 "BatchClasses" "typeOf" "[I", .methodLink RX2 83 yX2_isClass, .instanceMethod yX2_isClass, .selects RX2 yX2_isClass yX2_isClass, .initialized RX2, .code yX2_isClass cX2_isClass 2 (some .boolean), .fieldLink RX2 35 "BatchClasses" "classes" "I"] ++ wsX20)
def wsX2_resume_r1 : List Cond := [Cond.fieldLink RX2 45 "BatchClasses" "greatestDone" "[I", Cond.fieldLink RX2 48 "BatchClasses" "records" "I", Cond.methodLink RX2 83 yX2_isClass, Cond.instanceMethod yX2_isClass, Cond.selects RX2 yX2_isClass yX2_isClass, Cond.initialized RX2, Cond.code yX2_isClass cX2_isClass 2 (some .boolean), Cond.fieldLink RX2 35 "BatchClasses" "classes" "I", Cond.methodLink RX2 89 yX2_runOne, Cond.instanceMethod yX2_runOne, Cond.selects RX2 yX2_runOne yX2_runOne, Cond.code yX2_runOne cX2_runOne 4 (some .int), Cond.fieldLink RX2 60 "BatchClasses" "latestRecord" "I", Cond.fieldLink RX2 63 "BatchClasses" "latestDone" "Z", Cond.fieldLink RX2 19 "BatchClasses" "log" "LBatchClasses$FailureLog;", Cond.methodLink RX2 102 yX2_attempt, Cond.instanceMethod yX2_attempt, Cond.selects RX2 yX2_attempt yX2_attempt, Cond.code yX2_attempt cX2_attempt 3 (some .int), Cond.fieldLink RX2 54 "BatchClasses" "locked" "[Z", Cond.fieldLink RX2 10 "BatchClasses" "trial" "LBatchClasses$Trial;", Cond.fieldLink RX2 51 "BatchClasses" "fields" "[J", Cond.fieldLink RX2 41 "BatchClasses" "cells" "[J", Cond.fieldLink RX2 27 "BatchClasses" "programs" "[I"]
def wsX2_resume_r2 : List Cond := [Cond.fieldLink RX2 38 "BatchClasses" "typeOf" "[I", Cond.fieldLink RX2 76 "BatchClasses" "steps" "I", Cond.instanceMethod yX1_load, Cond.initialized RX1, Cond.selects RX1 yX1_load yX1_load, Cond.code yX1_load cX1_load 5 none, Cond.fieldLink RX1 9 "BatchClasses$Trial" "a" "J", Cond.fieldLink RX1 15 "BatchClasses$Trial" "b" "J", Cond.fieldLink RX1 18 "BatchClasses$Trial" "c" "J", Cond.fieldLink RX1 21 "BatchClasses$Trial" "d" "J", Cond.fieldLink RX1 24 "BatchClasses$Trial" "cell" "J", Cond.fieldLink RX1 27 "BatchClasses$Trial" "locks" "Z", Cond.instanceMethod yX1_perform, Cond.selects RX1 yX1_perform yX1_perform, Cond.code yX1_perform cX1_perform 7 (some .int), Cond.methodLink RX1 31 yX1_change, Cond.instanceMethod yX1_change, Cond.selects RX1 yX1_change yX1_change, Cond.code yX1_change cX1_change 2 (some .int), Cond.constantLong RX1 35 (2), Cond.methodLink RX1 37 yX1_swap, Cond.instanceMethod yX1_swap, Cond.selects RX1 yX1_swap yX1_swap, Cond.code yX1_swap cX1_swap 3 none]
def wsX2_resume_r3 : List Cond := [Cond.methodLink RX2 120 yX2_keep, Cond.instanceMethod yX2_keep, Cond.selects RX2 yX2_keep yX2_keep, Cond.code yX2_keep cX2_keep 3 none, Cond.fieldLink RX2 57 "BatchClasses" "doneBy" "[J", Cond.methodLink RX2 73 Lib.Math.max.name, Cond.static Lib.Math.max.name, Cond.initialized "java/lang/Math", Cond.code Lib.Math.max.name Lib.Math.max.code 2 (some .int), Cond.instanceMethod yX1_store, Cond.selects RX1 yX1_store yX1_store, Cond.code yX1_store cX1_store 3 none, Cond.instanceMethod yX0_note, Cond.initialized RX0, Cond.selects RX0 yX0_note yX0_note, Cond.code yX0_note cX0_note 4 none, Cond.fieldLink RX0 9 "BatchClasses$FailureLog" "count" "I", Cond.fieldLink RX0 15 "BatchClasses$FailureLog" "ofRecord" "[I", Cond.fieldLink RX0 19 "BatchClasses$FailureLog" "ofKind" "[I", Cond.fieldLink RX0 22 "BatchClasses$FailureLog" "ofClass" "[I"]
def wsX2_resume : List Cond := .code yX2_resume cX2_resume 3 (some .int) :: ((wsX2_resume_r1 ++ (wsX2_resume_r2 ++ wsX2_resume_r3)) ++ wsX20 ++ wsX10 ++ wsX00)
def wsX2_divide : List Cond := .code yX2_divide cX2_divide 6 (some .long) :: ([.classLink RX2 95 "java/lang/ArithmeticException", .initialized "java/lang/ArithmeticException", .methodLink RX2 83 yX2_isClass, .instanceMethod yX2_isClass, .selects RX2 yX2_isClass yX2_isClass, .initialized RX2, .code yX2_isClass cX2_isClass 2 (some .boolean), .fieldLink RX2 35 "BatchClasses" "classes" "I"] ++ wsX20 ++ (vx_atS RX2 99 "java/lang/ArithmeticException" ["java/lang/RuntimeException", "java/lang/Exception"]).filter goodWord)
def wsX2_dry_r1 : List Cond := [Cond.fieldLink RX2 10 "BatchClasses" "trial" "LBatchClasses$Trial;", Cond.fieldLink RX2 51 "BatchClasses" "fields" "[J", Cond.methodLink RX2 83 yX2_isClass, Cond.instanceMethod yX2_isClass, Cond.selects RX2 yX2_isClass yX2_isClass, Cond.initialized RX2, Cond.code yX2_isClass cX2_isClass 2 (some .boolean), Cond.fieldLink RX2 35 "BatchClasses" "classes" "I", Cond.methodLink RX2 86 yX2_isRecord, Cond.instanceMethod yX2_isRecord, Cond.selects RX2 yX2_isRecord yX2_isRecord, Cond.code yX2_isRecord cX2_isRecord 2 (some .boolean), Cond.fieldLink RX2 48 "BatchClasses" "records" "I", Cond.methodLink RX2 102 yX2_attempt, Cond.instanceMethod yX2_attempt, Cond.selects RX2 yX2_attempt yX2_attempt, Cond.code yX2_attempt cX2_attempt 3 (some .int), Cond.fieldLink RX2 54 "BatchClasses" "locked" "[Z", Cond.fieldLink RX2 41 "BatchClasses" "cells" "[J", Cond.fieldLink RX2 27 "BatchClasses" "programs" "[I", Cond.fieldLink RX2 38 "BatchClasses" "typeOf" "[I", Cond.fieldLink RX2 76 "BatchClasses" "steps" "I", Cond.instanceMethod yX1_load, Cond.initialized RX1]
def wsX2_dry_r2 : List Cond := [Cond.selects RX1 yX1_load yX1_load, Cond.code yX1_load cX1_load 5 none, Cond.fieldLink RX1 9 "BatchClasses$Trial" "a" "J", Cond.fieldLink RX1 15 "BatchClasses$Trial" "b" "J", Cond.fieldLink RX1 18 "BatchClasses$Trial" "c" "J", Cond.fieldLink RX1 21 "BatchClasses$Trial" "d" "J", Cond.fieldLink RX1 24 "BatchClasses$Trial" "cell" "J", Cond.fieldLink RX1 27 "BatchClasses$Trial" "locks" "Z", Cond.instanceMethod yX1_perform, Cond.selects RX1 yX1_perform yX1_perform, Cond.code yX1_perform cX1_perform 7 (some .int), Cond.methodLink RX1 31 yX1_change, Cond.instanceMethod yX1_change, Cond.selects RX1 yX1_change yX1_change, Cond.code yX1_change cX1_change 2 (some .int), Cond.constantLong RX1 35 (2), Cond.methodLink RX1 37 yX1_swap, Cond.instanceMethod yX1_swap, Cond.selects RX1 yX1_swap yX1_swap, Cond.code yX1_swap cX1_swap 3 none, Cond.instanceMethod yX1_countOthers, Cond.selects RX1 yX1_countOthers yX1_countOthers, Cond.code yX1_countOthers cX1_countOthers 3 (some .int)]
def wsX2_dry : List Cond := .code yX2_dry cX2_dry 4 (some .int) :: ((wsX2_dry_r1 ++ wsX2_dry_r2) ++ wsX20 ++ wsX10)
def wsJ9_max_7cf53 : List Cond := .code yJ9_max_7cf53 cJ9_max_7cf53 2 (some .int) :: ([])
def wsJ9_min_7cf53 : List Cond := .code yJ9_min_7cf53 cJ9_min_7cf53 2 (some .int) :: ([])
def wsL_cell : List Cond := .code yL_cell cL_cell 2 (some .int) :: ([])
def wsL_divide : List Cond := .codeWith yL_divide cL_divide 8 (some .int) [(0, 12, 15, 13)] :: ([.classLink RL 13 "java/lang/ArithmeticException", .methodLink RL 7 yX2_divide, .instanceMethod yX2_divide, .selects RX2 yX2_divide yX2_divide, .initialized RX2, .code yX2_divide cX2_divide 6 (some .long), .classLink RX2 95 "java/lang/ArithmeticException", .initialized "java/lang/ArithmeticException", .methodLink RX2 83 yX2_isClass, .instanceMethod yX2_isClass, .selects RX2 yX2_isClass yX2_isClass, .code yX2_isClass cX2_isClass 2 (some .boolean), .fieldLink RX2 35 "BatchClasses" "classes" "I"] ++ wsX20 ++ (vx_atS RX2 99 "java/lang/ArithmeticException" ["java/lang/RuntimeException", "java/lang/Exception"]).filter goodWord)
def wsL_law0_r1 : List Cond := [Cond.classLink RL 8 RX2, Cond.instantiable RX2 16, Cond.initialized RX2, Cond.arrayClass .long, Cond.methodLink RL 21 yL_cell, Cond.static yL_cell, Cond.initialized RL, Cond.code yL_cell cL_cell 2 (some .int), Cond.methodLink RL 27 yX2_init, Cond.instanceMethod yX2_init, Cond.code yX2_init cX2_init 2 none, Cond.methodLink RX2 1 objectInit, Cond.instanceMethod objectInit, Cond.code objectInit ⟨#[0xb1]⟩ 1 none, Cond.classLink RX2 7 RX1, Cond.instantiable RX1 6, Cond.initialized RX1, Cond.fieldLink RX2 10 "BatchClasses" "trial" "LBatchClasses$Trial;", Cond.classLink RX2 16 RX0, Cond.instantiable RX0 4, Cond.initialized RX0, Cond.fieldLink RX2 19 "BatchClasses" "log" "LBatchClasses$FailureLog;", Cond.fieldLink RX2 23 "BatchClasses" "types" "I", Cond.arrayClass .int]
def wsL_law0_r2 : List Cond := [Cond.fieldLink RX2 27 "BatchClasses" "programs" "[I", Cond.arrayClass .boolean, Cond.fieldLink RX2 31 "BatchClasses" "startFailing" "[Z", Cond.fieldLink RX2 35 "BatchClasses" "classes" "I", Cond.fieldLink RX2 38 "BatchClasses" "typeOf" "[I", Cond.fieldLink RX2 41 "BatchClasses" "cells" "[J", Cond.fieldLink RX2 45 "BatchClasses" "greatestDone" "[I", Cond.fieldLink RX2 48 "BatchClasses" "records" "I", Cond.fieldLink RX2 51 "BatchClasses" "fields" "[J", Cond.fieldLink RX2 54 "BatchClasses" "locked" "[Z", Cond.fieldLink RX2 57 "BatchClasses" "doneBy" "[J", Cond.fieldLink RX2 60 "BatchClasses" "latestRecord" "I", Cond.fieldLink RX2 63 "BatchClasses" "latestDone" "Z", Cond.methodLink RX2 67 Lib.Math.min.name, Cond.static Lib.Math.min.name, Cond.initialized "java/lang/Math", Cond.code Lib.Math.min.name Lib.Math.min.code 2 (some .int), Cond.methodLink RX2 73 Lib.Math.max.name, Cond.static Lib.Math.max.name, Cond.code Lib.Math.max.name Lib.Math.max.code 2 (some .int), Cond.fieldLink RX2 76 "BatchClasses" "steps" "I", Cond.instanceMethod yX1_init, Cond.code yX1_init cX1_init 1 none, Cond.methodLink RX1 3 objectInit]
def wsL_law0_r3 : List Cond := [Cond.fieldLink RX1 9 "BatchClasses$Trial" "a" "J", Cond.fieldLink RX1 15 "BatchClasses$Trial" "b" "J", Cond.fieldLink RX1 18 "BatchClasses$Trial" "c" "J", Cond.fieldLink RX1 21 "BatchClasses$Trial" "d" "J", Cond.fieldLink RX1 24 "BatchClasses$Trial" "cell" "J", Cond.fieldLink RX1 27 "BatchClasses$Trial" "locks" "Z", Cond.instanceMethod yX0_init, Cond.code yX0_init cX0_init 1 none, Cond.methodLink RX0 3 objectInit, Cond.fieldLink RX0 9 "BatchClasses$FailureLog" "count" "I", Cond.fieldLink RX0 15 "BatchClasses$FailureLog" "ofRecord" "[I", Cond.fieldLink RX0 19 "BatchClasses$FailureLog" "ofKind" "[I", Cond.fieldLink RX0 22 "BatchClasses$FailureLog" "ofClass" "[I", Cond.methodLink RL 33 yX2_type, Cond.instanceMethod yX2_type, Cond.selects RX2 yX2_type yX2_type, Cond.code yX2_type cX2_type 3 (some .int), Cond.methodLink RL 38 yX2_make, Cond.instanceMethod yX2_make, Cond.selects RX2 yX2_make yX2_make, Cond.code yX2_make cX2_make 2 (some .int), Cond.methodLink RL 44 yX2_record, Cond.instanceMethod yX2_record, Cond.selects RX2 yX2_record yX2_record]
def wsL_law0_r4 : List Cond := [Cond.code yX2_record cX2_record 4 (some .int), Cond.methodLink RX2 79 yX2_isField, Cond.static yX2_isField, Cond.code yX2_isField cX2_isField 1 (some .boolean), Cond.methodLink RL 49 yX2_run, Cond.instanceMethod yX2_run, Cond.selects RX2 yX2_run yX2_run, Cond.code yX2_run cX2_run 4 (some .int), Cond.methodLink RX2 83 yX2_isClass, Cond.instanceMethod yX2_isClass, Cond.selects RX2 yX2_isClass yX2_isClass, Cond.code yX2_isClass cX2_isClass 2 (some .boolean), Cond.methodLink RX2 86 yX2_isRecord, Cond.instanceMethod yX2_isRecord, Cond.selects RX2 yX2_isRecord yX2_isRecord, Cond.code yX2_isRecord cX2_isRecord 2 (some .boolean), Cond.methodLink RX2 89 yX2_runOne, Cond.instanceMethod yX2_runOne, Cond.selects RX2 yX2_runOne yX2_runOne, Cond.code yX2_runOne cX2_runOne 4 (some .int), Cond.methodLink RX2 102 yX2_attempt, Cond.instanceMethod yX2_attempt, Cond.selects RX2 yX2_attempt yX2_attempt, Cond.code yX2_attempt cX2_attempt 3 (some .int)]
def wsL_law0_r5 : List Cond := [Cond.instanceMethod yX1_load, Cond.selects RX1 yX1_load yX1_load, Cond.code yX1_load cX1_load 5 none, Cond.instanceMethod yX1_perform, Cond.selects RX1 yX1_perform yX1_perform, Cond.code yX1_perform cX1_perform 7 (some .int), Cond.methodLink RX1 31 yX1_change, Cond.instanceMethod yX1_change, Cond.selects RX1 yX1_change yX1_change, Cond.code yX1_change cX1_change 2 (some .int), Cond.constantLong RX1 35 (2), Cond.methodLink RX1 37 yX1_swap, Cond.instanceMethod yX1_swap, Cond.selects RX1 yX1_swap yX1_swap, Cond.code yX1_swap cX1_swap 3 none, Cond.methodLink RX2 120 yX2_keep, Cond.instanceMethod yX2_keep, Cond.selects RX2 yX2_keep yX2_keep, Cond.code yX2_keep cX2_keep 3 none, Cond.instanceMethod yX1_store, Cond.selects RX1 yX1_store yX1_store, Cond.code yX1_store cX1_store 3 none, Cond.instanceMethod yX0_note, Cond.selects RX0 yX0_note yX0_note]
def wsL_law0_r6 : List Cond := [Cond.code yX0_note cX0_note 4 none, Cond.methodLink RL 54 yX2_value, Cond.instanceMethod yX2_value, Cond.selects RX2 yX2_value yX2_value, Cond.code yX2_value cX2_value 3 (some .long), Cond.methodLink RL 59 yX2_failed, Cond.instanceMethod yX2_failed, Cond.selects RX2 yX2_failed yX2_failed, Cond.code yX2_failed cX2_failed 3 (some .int), Cond.instanceMethod yX0_look, Cond.selects RX0 yX0_look yX0_look, Cond.code yX0_look cX0_look 3 (some .int), Cond.methodLink RL 63 yX2_cell, Cond.instanceMethod yX2_cell, Cond.selects RX2 yX2_cell yX2_cell, Cond.code yX2_cell cX2_cell 2 (some .long), Cond.methodLink RL 67 yX2_same, Cond.instanceMethod yX2_same, Cond.selects RX2 yX2_same yX2_same, Cond.code yX2_same cX2_same 3 (some .boolean), Cond.methodLink RL 72 yX2_resume, Cond.instanceMethod yX2_resume, Cond.selects RX2 yX2_resume yX2_resume, Cond.code yX2_resume cX2_resume 3 (some .int)]
def wsL_law0_r7 : List Cond := [Cond.methodLink RL 76 yL_divide, Cond.static yL_divide, Cond.codeWith yL_divide cL_divide 8 (some .int) [(0, 12, 15, 13)], Cond.classLink RL 13 "java/lang/ArithmeticException", Cond.methodLink RL 7 yX2_divide, Cond.instanceMethod yX2_divide, Cond.selects RX2 yX2_divide yX2_divide, Cond.code yX2_divide cX2_divide 6 (some .long), Cond.classLink RX2 95 "java/lang/ArithmeticException", Cond.initialized "java/lang/ArithmeticException", Cond.methodLink RL 84 yX2_dry, Cond.instanceMethod yX2_dry, Cond.selects RX2 yX2_dry yX2_dry, Cond.code yX2_dry cX2_dry 4 (some .int), Cond.instanceMethod yX1_countOthers, Cond.selects RX1 yX1_countOthers yX1_countOthers, Cond.code yX1_countOthers cX1_countOthers 3 (some .int)]
def wsL_law0 : List Cond := (wsL_law0_r1 ++ (wsL_law0_r2 ++ (wsL_law0_r3 ++ (wsL_law0_r4 ++ (wsL_law0_r5 ++ (wsL_law0_r6 ++ wsL_law0_r7)))))) ++ wsX20 ++ wsX10 ++ wsX00 ++ ([] : List Cond)
def wsL_law : List Cond := wsL_law0 ++ (vx_atS RX2 99 "java/lang/ArithmeticException" ["java/lang/RuntimeException", "java/lang/Exception"]).filter goodWord
set_option maxRecDepth 20000 in
theorem wsL_law_in0 : ∀ w ∈ wsL_law0, w ∈ lw_tbl := fun w h => (goodIn_p wsL_law0 [240, 34, 37, 87, 90, 42, 69, 145, 149, 153, 156, 160, 164, 168, 172, 176, 180, 184, 188, 193, 197, 201, 205, 209, 213, 217, 221, 225, 229, 248, 233, 237] (by decide +kernel) (by decide +kernel) w h).1
theorem wsL_law_x0 : ∀ w ∈ (vx_atS RX2 99 "java/lang/ArithmeticException" ["java/lang/RuntimeException", "java/lang/Exception"]).filter goodWord, w ∈ lw_tbl := by decide +kernel
theorem wsL_law_in : ∀ w ∈ wsL_law, w ∈ lw_tbl := fun w h => (List.mem_append.mp h).elim (fun h => wsL_law_in0 w h) (fun h => wsL_law_x0 w h)
theorem inlX0 : ∀ w ∈ wsX00, w ∈ wsL_law := fun _ h => List.mem_append_left _ (List.mem_append_left _ (List.mem_append_right _ h))
theorem inX0 : ∀ w ∈ wsX00, w ∈ lw_tbl := fun w h => wsL_law_in w (inlX0 w h)
theorem inlX1 : ∀ w ∈ wsX10, w ∈ wsL_law := fun _ h => List.mem_append_left _ (List.mem_append_left _ (List.mem_append_left _ (List.mem_append_right _ h)))
theorem inX1 : ∀ w ∈ wsX10, w ∈ lw_tbl := fun w h => wsL_law_in w (inlX1 w h)
theorem inlX2 : ∀ w ∈ wsX20, w ∈ wsL_law := fun _ h => List.mem_append_left _ (List.mem_append_left _ (List.mem_append_left _ (List.mem_append_left _ (List.mem_append_right _ h))))
theorem inX2 : ∀ w ∈ wsX20, w ∈ lw_tbl := fun w h => wsL_law_in w (inlX2 w h)
theorem inX3 : ∀ w ∈ wsX30, w ∈ lw_tbl := by decide +kernel
theorem inJ13 : ∀ w ∈ wsJ130, w ∈ lw_tbl := by decide +kernel
theorem inJ9 : ∀ w ∈ wsJ90, w ∈ lw_tbl := by decide +kernel
theorem inJ0 : ∀ w ∈ wsJ00, w ∈ lw_tbl := by decide +kernel
theorem dX0_init_0 : decode cX0_init 0 = .ok (.aload_n 0, 1) := by decide +kernel
theorem dX0_init_1 : decode cX0_init 1 = .ok (.invokespecial 3, 3) := by decide +kernel
theorem dX0_init_4 : decode cX0_init 4 = .ok (.aload_n 0, 1) := by decide +kernel
theorem dX0_init_5 : decode cX0_init 5 = .ok (.iconst 0, 1) := by decide +kernel
theorem dX0_init_6 : decode cX0_init 6 = .ok (.putfield 9, 3) := by decide +kernel
theorem dX0_init_9 : decode cX0_init 9 = .ok (.aload_n 0, 1) := by decide +kernel
theorem dX0_init_10 : decode cX0_init 10 = .ok (.bipush 100, 2) := by decide +kernel
theorem dX0_init_12 : decode cX0_init 12 = .ok (.newarray .int, 2) := by decide +kernel
theorem dX0_init_14 : decode cX0_init 14 = .ok (.putfield 15, 3) := by decide +kernel
theorem dX0_init_17 : decode cX0_init 17 = .ok (.aload_n 0, 1) := by decide +kernel
theorem dX0_init_18 : decode cX0_init 18 = .ok (.bipush 100, 2) := by decide +kernel
theorem dX0_init_20 : decode cX0_init 20 = .ok (.newarray .int, 2) := by decide +kernel
theorem dX0_init_22 : decode cX0_init 22 = .ok (.putfield 19, 3) := by decide +kernel
theorem dX0_init_25 : decode cX0_init 25 = .ok (.aload_n 0, 1) := by decide +kernel
theorem dX0_init_26 : decode cX0_init 26 = .ok (.bipush 100, 2) := by decide +kernel
theorem dX0_init_28 : decode cX0_init 28 = .ok (.newarray .int, 2) := by decide +kernel
theorem dX0_init_30 : decode cX0_init 30 = .ok (.putfield 22, 3) := by decide +kernel
theorem dX0_init_33 : decode cX0_init 33 = .ok (.return_, 1) := by decide +kernel
theorem dX0_note_0 : decode cX0_note 0 = .ok (.aload_n 0, 1) := by decide +kernel
theorem dX0_note_1 : decode cX0_note 1 = .ok (.getfield 9, 3) := by decide +kernel
theorem dX0_note_4 : decode cX0_note 4 = .ok (.bipush 100, 2) := by decide +kernel
theorem dX0_note_6 : decode cX0_note 6 = .ok (.if_icmp .lt 4, 3) := by decide +kernel
theorem dX0_note_9 : decode cX0_note 9 = .ok (.return_, 1) := by decide +kernel
theorem dX0_note_10 : decode cX0_note 10 = .ok (.aload_n 0, 1) := by decide +kernel
theorem dX0_note_11 : decode cX0_note 11 = .ok (.getfield 15, 3) := by decide +kernel
theorem dX0_note_14 : decode cX0_note 14 = .ok (.aload_n 0, 1) := by decide +kernel
theorem dX0_note_15 : decode cX0_note 15 = .ok (.getfield 9, 3) := by decide +kernel
theorem dX0_note_18 : decode cX0_note 18 = .ok (.iload_n 1, 1) := by decide +kernel
theorem dX0_note_19 : decode cX0_note 19 = .ok (.iastore, 1) := by decide +kernel
theorem dX0_note_20 : decode cX0_note 20 = .ok (.aload_n 0, 1) := by decide +kernel
theorem dX0_note_21 : decode cX0_note 21 = .ok (.getfield 19, 3) := by decide +kernel
theorem dX0_note_24 : decode cX0_note 24 = .ok (.aload_n 0, 1) := by decide +kernel
theorem dX0_note_25 : decode cX0_note 25 = .ok (.getfield 9, 3) := by decide +kernel
theorem dX0_note_28 : decode cX0_note 28 = .ok (.iload_n 2, 1) := by decide +kernel
theorem dX0_note_29 : decode cX0_note 29 = .ok (.iastore, 1) := by decide +kernel
theorem dX0_note_30 : decode cX0_note 30 = .ok (.aload_n 0, 1) := by decide +kernel
theorem dX0_note_31 : decode cX0_note 31 = .ok (.getfield 22, 3) := by decide +kernel
theorem dX0_note_34 : decode cX0_note 34 = .ok (.aload_n 0, 1) := by decide +kernel
theorem dX0_note_35 : decode cX0_note 35 = .ok (.getfield 9, 3) := by decide +kernel
theorem dX0_note_38 : decode cX0_note 38 = .ok (.iload_n 3, 1) := by decide +kernel
theorem dX0_note_39 : decode cX0_note 39 = .ok (.iastore, 1) := by decide +kernel
theorem dX0_note_40 : decode cX0_note 40 = .ok (.aload_n 0, 1) := by decide +kernel
theorem dX0_note_41 : decode cX0_note 41 = .ok (.dup, 1) := by decide +kernel
theorem dX0_note_42 : decode cX0_note 42 = .ok (.getfield 9, 3) := by decide +kernel
theorem dX0_note_45 : decode cX0_note 45 = .ok (.iconst 1, 1) := by decide +kernel
theorem dX0_note_46 : decode cX0_note 46 = .ok (.iadd, 1) := by decide +kernel
theorem dX0_note_47 : decode cX0_note 47 = .ok (.putfield 9, 3) := by decide +kernel
theorem dX0_note_50 : decode cX0_note 50 = .ok (.return_, 1) := by decide +kernel
theorem dX0_look_0 : decode cX0_look 0 = .ok (.iload_n 1, 1) := by decide +kernel
theorem dX0_look_1 : decode cX0_look 1 = .ok (.ifCond .lt 11, 3) := by decide +kernel
theorem dX0_look_4 : decode cX0_look 4 = .ok (.iload_n 1, 1) := by decide +kernel
theorem dX0_look_5 : decode cX0_look 5 = .ok (.aload_n 0, 1) := by decide +kernel
theorem dX0_look_6 : decode cX0_look 6 = .ok (.getfield 9, 3) := by decide +kernel
theorem dX0_look_9 : decode cX0_look 9 = .ok (.if_icmp .lt 5, 3) := by decide +kernel
theorem dX0_look_12 : decode cX0_look 12 = .ok (.iconst (-1), 1) := by decide +kernel
theorem dX0_look_13 : decode cX0_look 13 = .ok (.ireturn, 1) := by decide +kernel
theorem dX0_look_14 : decode cX0_look 14 = .ok (.iload_n 2, 1) := by decide +kernel
theorem dX0_look_15 : decode cX0_look 15 = .ok (.tableswitch 46 0 2 #[25, 32, 39], 25) := by decide +kernel
theorem dX0_look_40 : decode cX0_look 40 = .ok (.aload_n 0, 1) := by decide +kernel
theorem dX0_look_41 : decode cX0_look 41 = .ok (.getfield 15, 3) := by decide +kernel
theorem dX0_look_44 : decode cX0_look 44 = .ok (.iload_n 1, 1) := by decide +kernel
theorem dX0_look_45 : decode cX0_look 45 = .ok (.iaload, 1) := by decide +kernel
theorem dX0_look_46 : decode cX0_look 46 = .ok (.ireturn, 1) := by decide +kernel
theorem dX0_look_47 : decode cX0_look 47 = .ok (.aload_n 0, 1) := by decide +kernel
theorem dX0_look_48 : decode cX0_look 48 = .ok (.getfield 19, 3) := by decide +kernel
theorem dX0_look_51 : decode cX0_look 51 = .ok (.iload_n 1, 1) := by decide +kernel
theorem dX0_look_52 : decode cX0_look 52 = .ok (.iaload, 1) := by decide +kernel
theorem dX0_look_53 : decode cX0_look 53 = .ok (.ireturn, 1) := by decide +kernel
theorem dX0_look_54 : decode cX0_look 54 = .ok (.aload_n 0, 1) := by decide +kernel
theorem dX0_look_55 : decode cX0_look 55 = .ok (.getfield 22, 3) := by decide +kernel
theorem dX0_look_58 : decode cX0_look 58 = .ok (.iload_n 1, 1) := by decide +kernel
theorem dX0_look_59 : decode cX0_look 59 = .ok (.iaload, 1) := by decide +kernel
theorem dX0_look_60 : decode cX0_look 60 = .ok (.ireturn, 1) := by decide +kernel
theorem dX0_look_61 : decode cX0_look 61 = .ok (.iconst (-1), 1) := by decide +kernel
theorem dX0_look_62 : decode cX0_look 62 = .ok (.ireturn, 1) := by decide +kernel
theorem dX1_init_0 : decode cX1_init 0 = .ok (.aload_n 0, 1) := by decide +kernel
theorem dX1_init_1 : decode cX1_init 1 = .ok (.invokespecial 3, 3) := by decide +kernel
theorem dX1_init_4 : decode cX1_init 4 = .ok (.aload_n 0, 1) := by decide +kernel
theorem dX1_init_5 : decode cX1_init 5 = .ok (.lconst 0, 1) := by decide +kernel
theorem dX1_init_6 : decode cX1_init 6 = .ok (.putfield 9, 3) := by decide +kernel
theorem dX1_init_9 : decode cX1_init 9 = .ok (.aload_n 0, 1) := by decide +kernel
theorem dX1_init_10 : decode cX1_init 10 = .ok (.lconst 0, 1) := by decide +kernel
theorem dX1_init_11 : decode cX1_init 11 = .ok (.putfield 15, 3) := by decide +kernel
theorem dX1_init_14 : decode cX1_init 14 = .ok (.aload_n 0, 1) := by decide +kernel
theorem dX1_init_15 : decode cX1_init 15 = .ok (.lconst 0, 1) := by decide +kernel
theorem dX1_init_16 : decode cX1_init 16 = .ok (.putfield 18, 3) := by decide +kernel
theorem dX1_init_19 : decode cX1_init 19 = .ok (.aload_n 0, 1) := by decide +kernel
theorem dX1_init_20 : decode cX1_init 20 = .ok (.lconst 0, 1) := by decide +kernel
theorem dX1_init_21 : decode cX1_init 21 = .ok (.putfield 21, 3) := by decide +kernel
theorem dX1_init_24 : decode cX1_init 24 = .ok (.aload_n 0, 1) := by decide +kernel
theorem dX1_init_25 : decode cX1_init 25 = .ok (.lconst 0, 1) := by decide +kernel
theorem dX1_init_26 : decode cX1_init 26 = .ok (.putfield 24, 3) := by decide +kernel
theorem dX1_init_29 : decode cX1_init 29 = .ok (.aload_n 0, 1) := by decide +kernel
theorem dX1_init_30 : decode cX1_init 30 = .ok (.iconst 0, 1) := by decide +kernel
theorem dX1_init_31 : decode cX1_init 31 = .ok (.putfield 27, 3) := by decide +kernel
theorem dX1_init_34 : decode cX1_init 34 = .ok (.return_, 1) := by decide +kernel
theorem dX1_load_0 : decode cX1_load 0 = .ok (.aload_n 0, 1) := by decide +kernel
theorem dX1_load_1 : decode cX1_load 1 = .ok (.aload_n 1, 1) := by decide +kernel
theorem dX1_load_2 : decode cX1_load 2 = .ok (.iload_n 2, 1) := by decide +kernel
theorem dX1_load_3 : decode cX1_load 3 = .ok (.laload, 1) := by decide +kernel
theorem dX1_load_4 : decode cX1_load 4 = .ok (.putfield 9, 3) := by decide +kernel
theorem dX1_load_7 : decode cX1_load 7 = .ok (.aload_n 0, 1) := by decide +kernel
theorem dX1_load_8 : decode cX1_load 8 = .ok (.aload_n 1, 1) := by decide +kernel
theorem dX1_load_9 : decode cX1_load 9 = .ok (.iload_n 2, 1) := by decide +kernel
theorem dX1_load_10 : decode cX1_load 10 = .ok (.iconst 1, 1) := by decide +kernel
theorem dX1_load_11 : decode cX1_load 11 = .ok (.iadd, 1) := by decide +kernel
theorem dX1_load_12 : decode cX1_load 12 = .ok (.laload, 1) := by decide +kernel
theorem dX1_load_13 : decode cX1_load 13 = .ok (.putfield 15, 3) := by decide +kernel
theorem dX1_load_16 : decode cX1_load 16 = .ok (.aload_n 0, 1) := by decide +kernel
theorem dX1_load_17 : decode cX1_load 17 = .ok (.aload_n 1, 1) := by decide +kernel
theorem dX1_load_18 : decode cX1_load 18 = .ok (.iload_n 2, 1) := by decide +kernel
theorem dX1_load_19 : decode cX1_load 19 = .ok (.iconst 2, 1) := by decide +kernel
theorem dX1_load_20 : decode cX1_load 20 = .ok (.iadd, 1) := by decide +kernel
theorem dX1_load_21 : decode cX1_load 21 = .ok (.laload, 1) := by decide +kernel
theorem dX1_load_22 : decode cX1_load 22 = .ok (.putfield 18, 3) := by decide +kernel
theorem dX1_load_25 : decode cX1_load 25 = .ok (.aload_n 0, 1) := by decide +kernel
theorem dX1_load_26 : decode cX1_load 26 = .ok (.aload_n 1, 1) := by decide +kernel
theorem dX1_load_27 : decode cX1_load 27 = .ok (.iload_n 2, 1) := by decide +kernel
theorem dX1_load_28 : decode cX1_load 28 = .ok (.iconst 3, 1) := by decide +kernel
theorem dX1_load_29 : decode cX1_load 29 = .ok (.iadd, 1) := by decide +kernel
theorem dX1_load_30 : decode cX1_load 30 = .ok (.laload, 1) := by decide +kernel
theorem dX1_load_31 : decode cX1_load 31 = .ok (.putfield 21, 3) := by decide +kernel
theorem dX1_load_34 : decode cX1_load 34 = .ok (.aload_n 0, 1) := by decide +kernel
theorem dX1_load_35 : decode cX1_load 35 = .ok (.lload_n 3, 1) := by decide +kernel
theorem dX1_load_36 : decode cX1_load 36 = .ok (.putfield 24, 3) := by decide +kernel
theorem dX1_load_39 : decode cX1_load 39 = .ok (.aload_n 0, 1) := by decide +kernel
theorem dX1_load_40 : decode cX1_load 40 = .ok (.iconst 0, 1) := by decide +kernel
theorem dX1_load_41 : decode cX1_load 41 = .ok (.putfield 27, 3) := by decide +kernel
theorem dX1_load_44 : decode cX1_load 44 = .ok (.return_, 1) := by decide +kernel
theorem dX1_store_0 : decode cX1_store 0 = .ok (.aload_n 1, 1) := by decide +kernel
theorem dX1_store_1 : decode cX1_store 1 = .ok (.iload_n 2, 1) := by decide +kernel
theorem dX1_store_2 : decode cX1_store 2 = .ok (.aload_n 0, 1) := by decide +kernel
theorem dX1_store_3 : decode cX1_store 3 = .ok (.getfield 9, 3) := by decide +kernel
theorem dX1_store_6 : decode cX1_store 6 = .ok (.lastore, 1) := by decide +kernel
theorem dX1_store_7 : decode cX1_store 7 = .ok (.aload_n 1, 1) := by decide +kernel
theorem dX1_store_8 : decode cX1_store 8 = .ok (.iload_n 2, 1) := by decide +kernel
theorem dX1_store_9 : decode cX1_store 9 = .ok (.iconst 1, 1) := by decide +kernel
theorem dX1_store_10 : decode cX1_store 10 = .ok (.iadd, 1) := by decide +kernel
theorem dX1_store_11 : decode cX1_store 11 = .ok (.aload_n 0, 1) := by decide +kernel
theorem dX1_store_12 : decode cX1_store 12 = .ok (.getfield 15, 3) := by decide +kernel
theorem dX1_store_15 : decode cX1_store 15 = .ok (.lastore, 1) := by decide +kernel
theorem dX1_store_16 : decode cX1_store 16 = .ok (.aload_n 1, 1) := by decide +kernel
theorem dX1_store_17 : decode cX1_store 17 = .ok (.iload_n 2, 1) := by decide +kernel
theorem dX1_store_18 : decode cX1_store 18 = .ok (.iconst 2, 1) := by decide +kernel
theorem dX1_store_19 : decode cX1_store 19 = .ok (.iadd, 1) := by decide +kernel
theorem dX1_store_20 : decode cX1_store 20 = .ok (.aload_n 0, 1) := by decide +kernel
theorem dX1_store_21 : decode cX1_store 21 = .ok (.getfield 18, 3) := by decide +kernel
theorem dX1_store_24 : decode cX1_store 24 = .ok (.lastore, 1) := by decide +kernel
theorem dX1_store_25 : decode cX1_store 25 = .ok (.aload_n 1, 1) := by decide +kernel
theorem dX1_store_26 : decode cX1_store 26 = .ok (.iload_n 2, 1) := by decide +kernel
theorem dX1_store_27 : decode cX1_store 27 = .ok (.iconst 3, 1) := by decide +kernel
theorem dX1_store_28 : decode cX1_store 28 = .ok (.iadd, 1) := by decide +kernel
theorem dX1_store_29 : decode cX1_store 29 = .ok (.aload_n 0, 1) := by decide +kernel
theorem dX1_store_30 : decode cX1_store 30 = .ok (.getfield 21, 3) := by decide +kernel
theorem dX1_store_33 : decode cX1_store 33 = .ok (.lastore, 1) := by decide +kernel
theorem dX1_store_34 : decode cX1_store 34 = .ok (.return_, 1) := by decide +kernel
theorem dX1_countOthers_0 : decode cX1_countOthers 0 = .ok (.aload_n 0, 1) := by decide +kernel
theorem dX1_countOthers_1 : decode cX1_countOthers 1 = .ok (.getfield 9, 3) := by decide +kernel
theorem dX1_countOthers_4 : decode cX1_countOthers 4 = .ok (.aload_n 1, 1) := by decide +kernel
theorem dX1_countOthers_5 : decode cX1_countOthers 5 = .ok (.iload_n 2, 1) := by decide +kernel
theorem dX1_countOthers_6 : decode cX1_countOthers 6 = .ok (.laload, 1) := by decide +kernel
theorem dX1_countOthers_7 : decode cX1_countOthers 7 = .ok (.lcmp, 1) := by decide +kernel
theorem dX1_countOthers_8 : decode cX1_countOthers 8 = .ok (.ifCond .eq 7, 3) := by decide +kernel
theorem dX1_countOthers_11 : decode cX1_countOthers 11 = .ok (.iconst 1, 1) := by decide +kernel
theorem dX1_countOthers_12 : decode cX1_countOthers 12 = .ok (.goto 4, 3) := by decide +kernel
theorem dX1_countOthers_15 : decode cX1_countOthers 15 = .ok (.iconst 0, 1) := by decide +kernel
theorem dX1_countOthers_16 : decode cX1_countOthers 16 = .ok (.aload_n 0, 1) := by decide +kernel
theorem dX1_countOthers_17 : decode cX1_countOthers 17 = .ok (.getfield 15, 3) := by decide +kernel
theorem dX1_countOthers_20 : decode cX1_countOthers 20 = .ok (.aload_n 1, 1) := by decide +kernel
theorem dX1_countOthers_21 : decode cX1_countOthers 21 = .ok (.iload_n 2, 1) := by decide +kernel
theorem dX1_countOthers_22 : decode cX1_countOthers 22 = .ok (.iconst 1, 1) := by decide +kernel
theorem dX1_countOthers_23 : decode cX1_countOthers 23 = .ok (.iadd, 1) := by decide +kernel
theorem dX1_countOthers_24 : decode cX1_countOthers 24 = .ok (.laload, 1) := by decide +kernel
theorem dX1_countOthers_25 : decode cX1_countOthers 25 = .ok (.lcmp, 1) := by decide +kernel
theorem dX1_countOthers_26 : decode cX1_countOthers 26 = .ok (.ifCond .eq 7, 3) := by decide +kernel
theorem dX1_countOthers_29 : decode cX1_countOthers 29 = .ok (.iconst 1, 1) := by decide +kernel
theorem dX1_countOthers_30 : decode cX1_countOthers 30 = .ok (.goto 4, 3) := by decide +kernel
theorem dX1_countOthers_33 : decode cX1_countOthers 33 = .ok (.iconst 0, 1) := by decide +kernel
theorem dX1_countOthers_34 : decode cX1_countOthers 34 = .ok (.iadd, 1) := by decide +kernel
theorem dX1_countOthers_35 : decode cX1_countOthers 35 = .ok (.aload_n 0, 1) := by decide +kernel
theorem dX1_countOthers_36 : decode cX1_countOthers 36 = .ok (.getfield 18, 3) := by decide +kernel
theorem dX1_countOthers_39 : decode cX1_countOthers 39 = .ok (.aload_n 1, 1) := by decide +kernel
theorem dX1_countOthers_40 : decode cX1_countOthers 40 = .ok (.iload_n 2, 1) := by decide +kernel
theorem dX1_countOthers_41 : decode cX1_countOthers 41 = .ok (.iconst 2, 1) := by decide +kernel
theorem dX1_countOthers_42 : decode cX1_countOthers 42 = .ok (.iadd, 1) := by decide +kernel
theorem dX1_countOthers_43 : decode cX1_countOthers 43 = .ok (.laload, 1) := by decide +kernel
theorem dX1_countOthers_44 : decode cX1_countOthers 44 = .ok (.lcmp, 1) := by decide +kernel
theorem dX1_countOthers_45 : decode cX1_countOthers 45 = .ok (.ifCond .eq 7, 3) := by decide +kernel
theorem dX1_countOthers_48 : decode cX1_countOthers 48 = .ok (.iconst 1, 1) := by decide +kernel
theorem dX1_countOthers_49 : decode cX1_countOthers 49 = .ok (.goto 4, 3) := by decide +kernel
theorem dX1_countOthers_52 : decode cX1_countOthers 52 = .ok (.iconst 0, 1) := by decide +kernel
theorem dX1_countOthers_53 : decode cX1_countOthers 53 = .ok (.iadd, 1) := by decide +kernel
theorem dX1_countOthers_54 : decode cX1_countOthers 54 = .ok (.aload_n 0, 1) := by decide +kernel
theorem dX1_countOthers_55 : decode cX1_countOthers 55 = .ok (.getfield 21, 3) := by decide +kernel
theorem dX1_countOthers_58 : decode cX1_countOthers 58 = .ok (.aload_n 1, 1) := by decide +kernel
theorem dX1_countOthers_59 : decode cX1_countOthers 59 = .ok (.iload_n 2, 1) := by decide +kernel
theorem dX1_countOthers_60 : decode cX1_countOthers 60 = .ok (.iconst 3, 1) := by decide +kernel
theorem dX1_countOthers_61 : decode cX1_countOthers 61 = .ok (.iadd, 1) := by decide +kernel
theorem dX1_countOthers_62 : decode cX1_countOthers 62 = .ok (.laload, 1) := by decide +kernel
theorem dX1_countOthers_63 : decode cX1_countOthers 63 = .ok (.lcmp, 1) := by decide +kernel
theorem dX1_countOthers_64 : decode cX1_countOthers 64 = .ok (.ifCond .eq 7, 3) := by decide +kernel
theorem dX1_countOthers_67 : decode cX1_countOthers 67 = .ok (.iconst 1, 1) := by decide +kernel
theorem dX1_countOthers_68 : decode cX1_countOthers 68 = .ok (.goto 4, 3) := by decide +kernel
theorem dX1_countOthers_71 : decode cX1_countOthers 71 = .ok (.iconst 0, 1) := by decide +kernel
theorem dX1_countOthers_72 : decode cX1_countOthers 72 = .ok (.iadd, 1) := by decide +kernel
theorem dX1_countOthers_73 : decode cX1_countOthers 73 = .ok (.ireturn, 1) := by decide +kernel
set_option maxRecDepth 20000 in
theorem ggX1_perform_X1_change : GoodIn wsX1_perform wsX1_change := goodIn_r _ [7, 1, 8, 9, 10, 11, 12, 2, 13, 14, 15, 6, 16, 17, 18, 19, 20, 21, 22] (by decide +kernel) (by decide +kernel)
set_option maxRecDepth 20000 in
theorem gX1_perform_X1_change : GoodIn wsX1_perform (wsV RX1 31 RX1 yX1_change wsX1_change) := goodIn_app (goodIn_of _ (by decide +kernel)) ggX1_perform_X1_change
theorem dX1_perform_0 : decode cX1_perform 0 = .ok (.iconst 0, 1) := by decide +kernel
theorem dX1_perform_1 : decode cX1_perform 1 = .ok (.istore_n 3, 1) := by decide +kernel
theorem dX1_perform_2 : decode cX1_perform 2 = .ok (.iconst 0, 1) := by decide +kernel
theorem dX1_perform_3 : decode cX1_perform 3 = .ok (.istore 4, 2) := by decide +kernel
theorem dX1_perform_5 : decode cX1_perform 5 = .ok (.iload 4, 2) := by decide +kernel
theorem dX1_perform_7 : decode cX1_perform 7 = .ok (.iload_n 2, 1) := by decide +kernel
theorem dX1_perform_8 : decode cX1_perform 8 = .ok (.if_icmp .ge 76, 3) := by decide +kernel
theorem dX1_perform_11 : decode cX1_perform 11 = .ok (.iload_n 1, 1) := by decide +kernel
theorem dX1_perform_12 : decode cX1_perform 12 = .ok (.iload_n 3, 1) := by decide +kernel
theorem dX1_perform_13 : decode cX1_perform 13 = .ok (.iconst 4, 1) := by decide +kernel
theorem dX1_perform_14 : decode cX1_perform 14 = .ok (.imul, 1) := by decide +kernel
theorem dX1_perform_15 : decode cX1_perform 15 = .ok (.iushr, 1) := by decide +kernel
theorem dX1_perform_16 : decode cX1_perform 16 = .ok (.bipush 15, 2) := by decide +kernel
theorem dX1_perform_18 : decode cX1_perform 18 = .ok (.iand, 1) := by decide +kernel
theorem dX1_perform_19 : decode cX1_perform 19 = .ok (.istore 5, 2) := by decide +kernel
theorem dX1_perform_21 : decode cX1_perform 21 = .ok (.iinc 3 1, 3) := by decide +kernel
theorem dX1_perform_24 : decode cX1_perform 24 = .ok (.iload 5, 2) := by decide +kernel
theorem dX1_perform_26 : decode cX1_perform 26 = .ok (.bipush 13, 2) := by decide +kernel
theorem dX1_perform_28 : decode cX1_perform 28 = .ok (.if_icmp .ne 5, 3) := by decide +kernel
theorem dX1_perform_31 : decode cX1_perform 31 = .ok (.iconst 0, 1) := by decide +kernel
theorem dX1_perform_32 : decode cX1_perform 32 = .ok (.ireturn, 1) := by decide +kernel
theorem dX1_perform_33 : decode cX1_perform 33 = .ok (.iload 5, 2) := by decide +kernel
theorem dX1_perform_35 : decode cX1_perform 35 = .ok (.bipush 6, 2) := by decide +kernel
theorem dX1_perform_37 : decode cX1_perform 37 = .ok (.if_icmp .ne 17, 3) := by decide +kernel
theorem dX1_perform_40 : decode cX1_perform 40 = .ok (.aload_n 0, 1) := by decide +kernel
theorem dX1_perform_41 : decode cX1_perform 41 = .ok (.getfield 9, 3) := by decide +kernel
theorem dX1_perform_44 : decode cX1_perform 44 = .ok (.aload_n 0, 1) := by decide +kernel
theorem dX1_perform_45 : decode cX1_perform 45 = .ok (.getfield 18, 3) := by decide +kernel
theorem dX1_perform_48 : decode cX1_perform 48 = .ok (.lcmp, 1) := by decide +kernel
theorem dX1_perform_49 : decode cX1_perform 49 = .ok (.ifCond .ge 5, 3) := by decide +kernel
theorem dX1_perform_52 : decode cX1_perform 52 = .ok (.iconst 0, 1) := by decide +kernel
theorem dX1_perform_53 : decode cX1_perform 53 = .ok (.istore_n 3, 1) := by decide +kernel
theorem dX1_perform_54 : decode cX1_perform 54 = .ok (.aload_n 0, 1) := by decide +kernel
theorem dX1_perform_55 : decode cX1_perform 55 = .ok (.iload 5, 2) := by decide +kernel
theorem dX1_perform_57 : decode cX1_perform 57 = .ok (.invokevirtual 31, 3) := by decide +kernel
theorem dX1_perform_60 : decode cX1_perform 60 = .ok (.istore 6, 2) := by decide +kernel
theorem dX1_perform_62 : decode cX1_perform 62 = .ok (.iload 6, 2) := by decide +kernel
theorem dX1_perform_64 : decode cX1_perform 64 = .ok (.ifCond .eq 6, 3) := by decide +kernel
theorem dX1_perform_67 : decode cX1_perform 67 = .ok (.iload 6, 2) := by decide +kernel
theorem dX1_perform_69 : decode cX1_perform 69 = .ok (.ireturn, 1) := by decide +kernel
theorem dX1_perform_70 : decode cX1_perform 70 = .ok (.iload_n 3, 1) := by decide +kernel
theorem dX1_perform_71 : decode cX1_perform 71 = .ok (.bipush 8, 2) := by decide +kernel
theorem dX1_perform_73 : decode cX1_perform 73 = .ok (.if_icmp .lt 5, 3) := by decide +kernel
theorem dX1_perform_76 : decode cX1_perform 76 = .ok (.iconst 0, 1) := by decide +kernel
theorem dX1_perform_77 : decode cX1_perform 77 = .ok (.ireturn, 1) := by decide +kernel
theorem dX1_perform_78 : decode cX1_perform 78 = .ok (.iinc 4 1, 3) := by decide +kernel
theorem dX1_perform_81 : decode cX1_perform 81 = .ok (.goto (-76), 3) := by decide +kernel
theorem dX1_perform_84 : decode cX1_perform 84 = .ok (.iconst 4, 1) := by decide +kernel
theorem dX1_perform_85 : decode cX1_perform 85 = .ok (.ireturn, 1) := by decide +kernel
set_option maxRecDepth 20000 in
theorem ggX1_change_X1_swap : GoodIn wsX1_change wsX1_swap := goodIn_r _ [12, 1, 3, 13, 14, 15, 16, 17, 18] (by decide +kernel) (by decide +kernel)
set_option maxRecDepth 20000 in
theorem gX1_change_X1_swap : GoodIn wsX1_change (wsV RX1 37 RX1 yX1_swap wsX1_swap) := goodIn_app (goodIn_of _ (by decide +kernel)) ggX1_change_X1_swap
theorem dX1_change_0 : decode cX1_change 0 = .ok (.iload_n 1, 1) := by decide +kernel
theorem dX1_change_1 : decode cX1_change 1 = .ok (.tableswitch 200 1 12 #[63, 76, 91, 102, 129, 200, 136, 144, 160, 171, 173, 184], 63) := by decide +kernel
theorem dX1_change_64 : decode cX1_change 64 = .ok (.aload_n 0, 1) := by decide +kernel
theorem dX1_change_65 : decode cX1_change 65 = .ok (.dup, 1) := by decide +kernel
theorem dX1_change_66 : decode cX1_change 66 = .ok (.getfield 9, 3) := by decide +kernel
theorem dX1_change_69 : decode cX1_change 69 = .ok (.lconst 1, 1) := by decide +kernel
theorem dX1_change_70 : decode cX1_change 70 = .ok (.ladd, 1) := by decide +kernel
theorem dX1_change_71 : decode cX1_change 71 = .ok (.putfield 9, 3) := by decide +kernel
theorem dX1_change_74 : decode cX1_change 74 = .ok (.goto 127, 3) := by decide +kernel
theorem dX1_change_77 : decode cX1_change 77 = .ok (.aload_n 0, 1) := by decide +kernel
theorem dX1_change_78 : decode cX1_change 78 = .ok (.dup, 1) := by decide +kernel
theorem dX1_change_79 : decode cX1_change 79 = .ok (.getfield 9, 3) := by decide +kernel
theorem dX1_change_82 : decode cX1_change 82 = .ok (.ldc2_w 35, 3) := by decide +kernel
theorem dX1_change_85 : decode cX1_change 85 = .ok (.lmul, 1) := by decide +kernel
theorem dX1_change_86 : decode cX1_change 86 = .ok (.putfield 9, 3) := by decide +kernel
theorem dX1_change_89 : decode cX1_change 89 = .ok (.goto 112, 3) := by decide +kernel
theorem dX1_change_92 : decode cX1_change 92 = .ok (.aload_n 0, 1) := by decide +kernel
theorem dX1_change_93 : decode cX1_change 93 = .ok (.aload_n 0, 1) := by decide +kernel
theorem dX1_change_94 : decode cX1_change 94 = .ok (.getfield 9, 3) := by decide +kernel
theorem dX1_change_97 : decode cX1_change 97 = .ok (.putfield 15, 3) := by decide +kernel
theorem dX1_change_100 : decode cX1_change 100 = .ok (.goto 101, 3) := by decide +kernel
theorem dX1_change_103 : decode cX1_change 103 = .ok (.aload_n 0, 1) := by decide +kernel
theorem dX1_change_104 : decode cX1_change 104 = .ok (.getfield 15, 3) := by decide +kernel
theorem dX1_change_107 : decode cX1_change 107 = .ok (.lconst 0, 1) := by decide +kernel
theorem dX1_change_108 : decode cX1_change 108 = .ok (.lcmp, 1) := by decide +kernel
theorem dX1_change_109 : decode cX1_change 109 = .ok (.ifCond .ne 5, 3) := by decide +kernel
theorem dX1_change_112 : decode cX1_change 112 = .ok (.iconst 2, 1) := by decide +kernel
theorem dX1_change_113 : decode cX1_change 113 = .ok (.ireturn, 1) := by decide +kernel
theorem dX1_change_114 : decode cX1_change 114 = .ok (.aload_n 0, 1) := by decide +kernel
theorem dX1_change_115 : decode cX1_change 115 = .ok (.dup, 1) := by decide +kernel
theorem dX1_change_116 : decode cX1_change 116 = .ok (.getfield 9, 3) := by decide +kernel
theorem dX1_change_119 : decode cX1_change 119 = .ok (.aload_n 0, 1) := by decide +kernel
theorem dX1_change_120 : decode cX1_change 120 = .ok (.getfield 15, 3) := by decide +kernel
theorem dX1_change_123 : decode cX1_change 123 = .ok (.ldiv, 1) := by decide +kernel
theorem dX1_change_124 : decode cX1_change 124 = .ok (.putfield 9, 3) := by decide +kernel
theorem dX1_change_127 : decode cX1_change 127 = .ok (.goto 74, 3) := by decide +kernel
theorem dX1_change_130 : decode cX1_change 130 = .ok (.aload_n 0, 1) := by decide +kernel
theorem dX1_change_131 : decode cX1_change 131 = .ok (.invokevirtual 37, 3) := by decide +kernel
theorem dX1_change_134 : decode cX1_change 134 = .ok (.goto 67, 3) := by decide +kernel
theorem dX1_change_137 : decode cX1_change 137 = .ok (.aload_n 0, 1) := by decide +kernel
theorem dX1_change_138 : decode cX1_change 138 = .ok (.iconst 1, 1) := by decide +kernel
theorem dX1_change_139 : decode cX1_change 139 = .ok (.putfield 27, 3) := by decide +kernel
theorem dX1_change_142 : decode cX1_change 142 = .ok (.goto 59, 3) := by decide +kernel
theorem dX1_change_145 : decode cX1_change 145 = .ok (.aload_n 0, 1) := by decide +kernel
theorem dX1_change_146 : decode cX1_change 146 = .ok (.dup, 1) := by decide +kernel
theorem dX1_change_147 : decode cX1_change 147 = .ok (.getfield 24, 3) := by decide +kernel
theorem dX1_change_150 : decode cX1_change 150 = .ok (.aload_n 0, 1) := by decide +kernel
theorem dX1_change_151 : decode cX1_change 151 = .ok (.getfield 9, 3) := by decide +kernel
theorem dX1_change_154 : decode cX1_change 154 = .ok (.ladd, 1) := by decide +kernel
theorem dX1_change_155 : decode cX1_change 155 = .ok (.putfield 24, 3) := by decide +kernel
theorem dX1_change_158 : decode cX1_change 158 = .ok (.goto 43, 3) := by decide +kernel
theorem dX1_change_161 : decode cX1_change 161 = .ok (.aload_n 0, 1) := by decide +kernel
theorem dX1_change_162 : decode cX1_change 162 = .ok (.aload_n 0, 1) := by decide +kernel
theorem dX1_change_163 : decode cX1_change 163 = .ok (.getfield 24, 3) := by decide +kernel
theorem dX1_change_166 : decode cX1_change 166 = .ok (.putfield 9, 3) := by decide +kernel
theorem dX1_change_169 : decode cX1_change 169 = .ok (.goto 32, 3) := by decide +kernel
theorem dX1_change_172 : decode cX1_change 172 = .ok (.iconst 3, 1) := by decide +kernel
theorem dX1_change_173 : decode cX1_change 173 = .ok (.ireturn, 1) := by decide +kernel
theorem dX1_change_174 : decode cX1_change 174 = .ok (.aload_n 0, 1) := by decide +kernel
theorem dX1_change_175 : decode cX1_change 175 = .ok (.aload_n 0, 1) := by decide +kernel
theorem dX1_change_176 : decode cX1_change 176 = .ok (.getfield 21, 3) := by decide +kernel
theorem dX1_change_179 : decode cX1_change 179 = .ok (.putfield 18, 3) := by decide +kernel
theorem dX1_change_182 : decode cX1_change 182 = .ok (.goto 19, 3) := by decide +kernel
theorem dX1_change_185 : decode cX1_change 185 = .ok (.aload_n 0, 1) := by decide +kernel
theorem dX1_change_186 : decode cX1_change 186 = .ok (.aload_n 0, 1) := by decide +kernel
theorem dX1_change_187 : decode cX1_change 187 = .ok (.getfield 9, 3) := by decide +kernel
theorem dX1_change_190 : decode cX1_change 190 = .ok (.aload_n 0, 1) := by decide +kernel
theorem dX1_change_191 : decode cX1_change 191 = .ok (.getfield 18, 3) := by decide +kernel
theorem dX1_change_194 : decode cX1_change 194 = .ok (.lsub, 1) := by decide +kernel
theorem dX1_change_195 : decode cX1_change 195 = .ok (.putfield 21, 3) := by decide +kernel
theorem dX1_change_198 : decode cX1_change 198 = .ok (.goto 3, 3) := by decide +kernel
theorem dX1_change_201 : decode cX1_change 201 = .ok (.iconst 0, 1) := by decide +kernel
theorem dX1_change_202 : decode cX1_change 202 = .ok (.ireturn, 1) := by decide +kernel
theorem dX1_swap_0 : decode cX1_swap 0 = .ok (.aload_n 0, 1) := by decide +kernel
theorem dX1_swap_1 : decode cX1_swap 1 = .ok (.getfield 9, 3) := by decide +kernel
theorem dX1_swap_4 : decode cX1_swap 4 = .ok (.lstore_n 1, 1) := by decide +kernel
theorem dX1_swap_5 : decode cX1_swap 5 = .ok (.aload_n 0, 1) := by decide +kernel
theorem dX1_swap_6 : decode cX1_swap 6 = .ok (.aload_n 0, 1) := by decide +kernel
theorem dX1_swap_7 : decode cX1_swap 7 = .ok (.getfield 15, 3) := by decide +kernel
theorem dX1_swap_10 : decode cX1_swap 10 = .ok (.putfield 9, 3) := by decide +kernel
theorem dX1_swap_13 : decode cX1_swap 13 = .ok (.aload_n 0, 1) := by decide +kernel
theorem dX1_swap_14 : decode cX1_swap 14 = .ok (.lload_n 1, 1) := by decide +kernel
theorem dX1_swap_15 : decode cX1_swap 15 = .ok (.putfield 15, 3) := by decide +kernel
theorem dX1_swap_18 : decode cX1_swap 18 = .ok (.return_, 1) := by decide +kernel
set_option maxRecDepth 20000 in
theorem ggX2_init_X1_init : GoodIn wsX2_init wsX1_init := goodIn_r _ [37, 38, 2, 3, 39, 40, 41, 42, 43, 44, 52, 53, 54, 55, 56, 57] (by decide +kernel) (by decide +kernel)
set_option maxRecDepth 20000 in
theorem gX2_init_X1_init_n9 : GoodIn wsX2_init (wsX1_init) := ggX2_init_X1_init
set_option maxRecDepth 20000 in
theorem ggX2_init_X0_init : GoodIn wsX2_init wsX0_init := goodIn_r _ [46, 47, 2, 3, 48, 13, 49, 50, 51, 74, 75, 76, 77] (by decide +kernel) (by decide +kernel)
set_option maxRecDepth 20000 in
theorem gX2_init_X0_init_n18 : GoodIn wsX2_init (wsX0_init) := ggX2_init_X0_init
theorem dX2_init_0 : decode cX2_init 0 = .ok (.aload_n 0, 1) := by decide +kernel
theorem dX2_init_1 : decode cX2_init 1 = .ok (.invokespecial 1, 3) := by decide +kernel
theorem dX2_init_4 : decode cX2_init 4 = .ok (.aload_n 0, 1) := by decide +kernel
theorem dX2_init_5 : decode cX2_init 5 = .ok (.new 7, 3) := by decide +kernel
theorem dX2_init_8 : decode cX2_init 8 = .ok (.dup, 1) := by decide +kernel
theorem dX2_init_9 : decode cX2_init 9 = .ok (.invokespecial 9, 3) := by decide +kernel
theorem dX2_init_12 : decode cX2_init 12 = .ok (.putfield 10, 3) := by decide +kernel
theorem dX2_init_15 : decode cX2_init 15 = .ok (.aload_n 0, 1) := by decide +kernel
theorem dX2_init_16 : decode cX2_init 16 = .ok (.new 16, 3) := by decide +kernel
theorem dX2_init_19 : decode cX2_init 19 = .ok (.dup, 1) := by decide +kernel
theorem dX2_init_20 : decode cX2_init 20 = .ok (.invokespecial 18, 3) := by decide +kernel
theorem dX2_init_23 : decode cX2_init 23 = .ok (.putfield 19, 3) := by decide +kernel
theorem dX2_init_26 : decode cX2_init 26 = .ok (.aload_n 0, 1) := by decide +kernel
theorem dX2_init_27 : decode cX2_init 27 = .ok (.iconst 0, 1) := by decide +kernel
theorem dX2_init_28 : decode cX2_init 28 = .ok (.putfield 23, 3) := by decide +kernel
theorem dX2_init_31 : decode cX2_init 31 = .ok (.aload_n 0, 1) := by decide +kernel
theorem dX2_init_32 : decode cX2_init 32 = .ok (.bipush 20, 2) := by decide +kernel
theorem dX2_init_34 : decode cX2_init 34 = .ok (.newarray .int, 2) := by decide +kernel
theorem dX2_init_36 : decode cX2_init 36 = .ok (.putfield 27, 3) := by decide +kernel
theorem dX2_init_39 : decode cX2_init 39 = .ok (.aload_n 0, 1) := by decide +kernel
theorem dX2_init_40 : decode cX2_init 40 = .ok (.bipush 20, 2) := by decide +kernel
theorem dX2_init_42 : decode cX2_init 42 = .ok (.newarray .boolean, 2) := by decide +kernel
theorem dX2_init_44 : decode cX2_init 44 = .ok (.putfield 31, 3) := by decide +kernel
theorem dX2_init_47 : decode cX2_init 47 = .ok (.aload_n 0, 1) := by decide +kernel
theorem dX2_init_48 : decode cX2_init 48 = .ok (.iconst 0, 1) := by decide +kernel
theorem dX2_init_49 : decode cX2_init 49 = .ok (.putfield 35, 3) := by decide +kernel
theorem dX2_init_52 : decode cX2_init 52 = .ok (.aload_n 0, 1) := by decide +kernel
theorem dX2_init_53 : decode cX2_init 53 = .ok (.bipush 60, 2) := by decide +kernel
theorem dX2_init_55 : decode cX2_init 55 = .ok (.newarray .int, 2) := by decide +kernel
theorem dX2_init_57 : decode cX2_init 57 = .ok (.putfield 38, 3) := by decide +kernel
theorem dX2_init_60 : decode cX2_init 60 = .ok (.aload_n 0, 1) := by decide +kernel
theorem dX2_init_61 : decode cX2_init 61 = .ok (.bipush 60, 2) := by decide +kernel
theorem dX2_init_63 : decode cX2_init 63 = .ok (.newarray .long, 2) := by decide +kernel
theorem dX2_init_65 : decode cX2_init 65 = .ok (.putfield 41, 3) := by decide +kernel
theorem dX2_init_68 : decode cX2_init 68 = .ok (.aload_n 0, 1) := by decide +kernel
theorem dX2_init_69 : decode cX2_init 69 = .ok (.bipush 60, 2) := by decide +kernel
theorem dX2_init_71 : decode cX2_init 71 = .ok (.newarray .int, 2) := by decide +kernel
theorem dX2_init_73 : decode cX2_init 73 = .ok (.putfield 45, 3) := by decide +kernel
theorem dX2_init_76 : decode cX2_init 76 = .ok (.aload_n 0, 1) := by decide +kernel
theorem dX2_init_77 : decode cX2_init 77 = .ok (.iconst 0, 1) := by decide +kernel
theorem dX2_init_78 : decode cX2_init 78 = .ok (.putfield 48, 3) := by decide +kernel
theorem dX2_init_81 : decode cX2_init 81 = .ok (.aload_n 0, 1) := by decide +kernel
theorem dX2_init_82 : decode cX2_init 82 = .ok (.sipush 240, 3) := by decide +kernel
theorem dX2_init_85 : decode cX2_init 85 = .ok (.newarray .long, 2) := by decide +kernel
theorem dX2_init_87 : decode cX2_init 87 = .ok (.putfield 51, 3) := by decide +kernel
theorem dX2_init_90 : decode cX2_init 90 = .ok (.aload_n 0, 1) := by decide +kernel
theorem dX2_init_91 : decode cX2_init 91 = .ok (.bipush 60, 2) := by decide +kernel
theorem dX2_init_93 : decode cX2_init 93 = .ok (.newarray .boolean, 2) := by decide +kernel
theorem dX2_init_95 : decode cX2_init 95 = .ok (.putfield 54, 3) := by decide +kernel
theorem dX2_init_98 : decode cX2_init 98 = .ok (.aload_n 0, 1) := by decide +kernel
theorem dX2_init_99 : decode cX2_init 99 = .ok (.bipush 60, 2) := by decide +kernel
theorem dX2_init_101 : decode cX2_init 101 = .ok (.newarray .long, 2) := by decide +kernel
theorem dX2_init_103 : decode cX2_init 103 = .ok (.putfield 57, 3) := by decide +kernel
theorem dX2_init_106 : decode cX2_init 106 = .ok (.aload_n 0, 1) := by decide +kernel
theorem dX2_init_107 : decode cX2_init 107 = .ok (.iconst 0, 1) := by decide +kernel
theorem dX2_init_108 : decode cX2_init 108 = .ok (.putfield 60, 3) := by decide +kernel
theorem dX2_init_111 : decode cX2_init 111 = .ok (.aload_n 0, 1) := by decide +kernel
theorem dX2_init_112 : decode cX2_init 112 = .ok (.iconst 0, 1) := by decide +kernel
theorem dX2_init_113 : decode cX2_init 113 = .ok (.putfield 63, 3) := by decide +kernel
theorem dX2_init_116 : decode cX2_init 116 = .ok (.aload_n 0, 1) := by decide +kernel
theorem dX2_init_117 : decode cX2_init 117 = .ok (.iconst 1, 1) := by decide +kernel
theorem dX2_init_118 : decode cX2_init 118 = .ok (.sipush 200, 3) := by decide +kernel
theorem dX2_init_121 : decode cX2_init 121 = .ok (.iload_n 1, 1) := by decide +kernel
theorem dX2_init_122 : decode cX2_init 122 = .ok (.invokestatic 67, 3) := by decide +kernel
theorem dX2_init_125 : decode cX2_init 125 = .ok (.invokestatic 73, 3) := by decide +kernel
theorem dX2_init_128 : decode cX2_init 128 = .ok (.putfield 76, 3) := by decide +kernel
theorem dX2_init_131 : decode cX2_init 131 = .ok (.return_, 1) := by decide +kernel
theorem dX2_type_0 : decode cX2_type 0 = .ok (.aload_n 0, 1) := by decide +kernel
theorem dX2_type_1 : decode cX2_type 1 = .ok (.getfield 23, 3) := by decide +kernel
theorem dX2_type_4 : decode cX2_type 4 = .ok (.bipush 20, 2) := by decide +kernel
theorem dX2_type_6 : decode cX2_type 6 = .ok (.if_icmp .lt 5, 3) := by decide +kernel
theorem dX2_type_9 : decode cX2_type 9 = .ok (.iconst 0, 1) := by decide +kernel
theorem dX2_type_10 : decode cX2_type 10 = .ok (.ireturn, 1) := by decide +kernel
theorem dX2_type_11 : decode cX2_type 11 = .ok (.aload_n 0, 1) := by decide +kernel
theorem dX2_type_12 : decode cX2_type 12 = .ok (.getfield 27, 3) := by decide +kernel
theorem dX2_type_15 : decode cX2_type 15 = .ok (.aload_n 0, 1) := by decide +kernel
theorem dX2_type_16 : decode cX2_type 16 = .ok (.getfield 23, 3) := by decide +kernel
theorem dX2_type_19 : decode cX2_type 19 = .ok (.iload_n 1, 1) := by decide +kernel
theorem dX2_type_20 : decode cX2_type 20 = .ok (.iastore, 1) := by decide +kernel
theorem dX2_type_21 : decode cX2_type 21 = .ok (.aload_n 0, 1) := by decide +kernel
theorem dX2_type_22 : decode cX2_type 22 = .ok (.getfield 31, 3) := by decide +kernel
theorem dX2_type_25 : decode cX2_type 25 = .ok (.aload_n 0, 1) := by decide +kernel
theorem dX2_type_26 : decode cX2_type 26 = .ok (.getfield 23, 3) := by decide +kernel
theorem dX2_type_29 : decode cX2_type 29 = .ok (.iload_n 2, 1) := by decide +kernel
theorem dX2_type_30 : decode cX2_type 30 = .ok (.bastore, 1) := by decide +kernel
theorem dX2_type_31 : decode cX2_type 31 = .ok (.aload_n 0, 1) := by decide +kernel
theorem dX2_type_32 : decode cX2_type 32 = .ok (.dup, 1) := by decide +kernel
theorem dX2_type_33 : decode cX2_type 33 = .ok (.getfield 23, 3) := by decide +kernel
theorem dX2_type_36 : decode cX2_type 36 = .ok (.iconst 1, 1) := by decide +kernel
theorem dX2_type_37 : decode cX2_type 37 = .ok (.iadd, 1) := by decide +kernel
theorem dX2_type_38 : decode cX2_type 38 = .ok (.putfield 23, 3) := by decide +kernel
theorem dX2_type_41 : decode cX2_type 41 = .ok (.aload_n 0, 1) := by decide +kernel
theorem dX2_type_42 : decode cX2_type 42 = .ok (.getfield 23, 3) := by decide +kernel
theorem dX2_type_45 : decode cX2_type 45 = .ok (.ireturn, 1) := by decide +kernel
theorem dX2_make_0 : decode cX2_make 0 = .ok (.iload_n 1, 1) := by decide +kernel
theorem dX2_make_1 : decode cX2_make 1 = .ok (.iconst 1, 1) := by decide +kernel
theorem dX2_make_2 : decode cX2_make 2 = .ok (.if_icmp .lt 31, 3) := by decide +kernel
theorem dX2_make_5 : decode cX2_make 5 = .ok (.iload_n 1, 1) := by decide +kernel
theorem dX2_make_6 : decode cX2_make 6 = .ok (.aload_n 0, 1) := by decide +kernel
theorem dX2_make_7 : decode cX2_make 7 = .ok (.getfield 23, 3) := by decide +kernel
theorem dX2_make_10 : decode cX2_make 10 = .ok (.if_icmp .gt 23, 3) := by decide +kernel
theorem dX2_make_13 : decode cX2_make 13 = .ok (.aload_n 0, 1) := by decide +kernel
theorem dX2_make_14 : decode cX2_make 14 = .ok (.getfield 31, 3) := by decide +kernel
theorem dX2_make_17 : decode cX2_make 17 = .ok (.iload_n 1, 1) := by decide +kernel
theorem dX2_make_18 : decode cX2_make 18 = .ok (.iconst 1, 1) := by decide +kernel
theorem dX2_make_19 : decode cX2_make 19 = .ok (.isub, 1) := by decide +kernel
theorem dX2_make_20 : decode cX2_make 20 = .ok (.baload, 1) := by decide +kernel
theorem dX2_make_21 : decode cX2_make 21 = .ok (.ifCond .ne 12, 3) := by decide +kernel
theorem dX2_make_24 : decode cX2_make 24 = .ok (.aload_n 0, 1) := by decide +kernel
theorem dX2_make_25 : decode cX2_make 25 = .ok (.getfield 35, 3) := by decide +kernel
theorem dX2_make_28 : decode cX2_make 28 = .ok (.bipush 60, 2) := by decide +kernel
theorem dX2_make_30 : decode cX2_make 30 = .ok (.if_icmp .lt 5, 3) := by decide +kernel
theorem dX2_make_33 : decode cX2_make 33 = .ok (.iconst (-1), 1) := by decide +kernel
theorem dX2_make_34 : decode cX2_make 34 = .ok (.ireturn, 1) := by decide +kernel
theorem dX2_make_35 : decode cX2_make 35 = .ok (.aload_n 0, 1) := by decide +kernel
theorem dX2_make_36 : decode cX2_make 36 = .ok (.getfield 38, 3) := by decide +kernel
theorem dX2_make_39 : decode cX2_make 39 = .ok (.aload_n 0, 1) := by decide +kernel
theorem dX2_make_40 : decode cX2_make 40 = .ok (.getfield 35, 3) := by decide +kernel
theorem dX2_make_43 : decode cX2_make 43 = .ok (.iload_n 1, 1) := by decide +kernel
theorem dX2_make_44 : decode cX2_make 44 = .ok (.iastore, 1) := by decide +kernel
theorem dX2_make_45 : decode cX2_make 45 = .ok (.aload_n 0, 1) := by decide +kernel
theorem dX2_make_46 : decode cX2_make 46 = .ok (.dup, 1) := by decide +kernel
theorem dX2_make_47 : decode cX2_make 47 = .ok (.getfield 35, 3) := by decide +kernel
theorem dX2_make_50 : decode cX2_make 50 = .ok (.iconst 1, 1) := by decide +kernel
theorem dX2_make_51 : decode cX2_make 51 = .ok (.iadd, 1) := by decide +kernel
theorem dX2_make_52 : decode cX2_make 52 = .ok (.putfield 35, 3) := by decide +kernel
theorem dX2_make_55 : decode cX2_make 55 = .ok (.aload_n 0, 1) := by decide +kernel
theorem dX2_make_56 : decode cX2_make 56 = .ok (.getfield 35, 3) := by decide +kernel
theorem dX2_make_59 : decode cX2_make 59 = .ok (.ireturn, 1) := by decide +kernel
set_option maxRecDepth 20000 in
theorem ggX2_record_X2_isField : GoodIn wsX2_record wsX2_isField := goodIn_r _ [6] (by decide +kernel) (by decide +kernel)
set_option maxRecDepth 20000 in
theorem gX2_record_X2_isField : GoodIn wsX2_record (va_wsS RX2 79 yX2_isField wsX2_isField) := goodIn_app (goodIn_of _ (by decide +kernel)) ggX2_record_X2_isField
theorem dX2_record_0 : decode cX2_record 0 = .ok (.iload_n 1, 1) := by decide +kernel
theorem dX2_record_1 : decode cX2_record 1 = .ok (.invokestatic 79, 3) := by decide +kernel
theorem dX2_record_4 : decode cX2_record 4 = .ok (.ifCond .eq 12, 3) := by decide +kernel
theorem dX2_record_7 : decode cX2_record 7 = .ok (.aload_n 0, 1) := by decide +kernel
theorem dX2_record_8 : decode cX2_record 8 = .ok (.getfield 48, 3) := by decide +kernel
theorem dX2_record_11 : decode cX2_record 11 = .ok (.bipush 60, 2) := by decide +kernel
theorem dX2_record_13 : decode cX2_record 13 = .ok (.if_icmp .lt 5, 3) := by decide +kernel
theorem dX2_record_16 : decode cX2_record 16 = .ok (.iconst 0, 1) := by decide +kernel
theorem dX2_record_17 : decode cX2_record 17 = .ok (.ireturn, 1) := by decide +kernel
theorem dX2_record_18 : decode cX2_record 18 = .ok (.aload_n 0, 1) := by decide +kernel
theorem dX2_record_19 : decode cX2_record 19 = .ok (.getfield 51, 3) := by decide +kernel
theorem dX2_record_22 : decode cX2_record 22 = .ok (.aload_n 0, 1) := by decide +kernel
theorem dX2_record_23 : decode cX2_record 23 = .ok (.getfield 48, 3) := by decide +kernel
theorem dX2_record_26 : decode cX2_record 26 = .ok (.iconst 4, 1) := by decide +kernel
theorem dX2_record_27 : decode cX2_record 27 = .ok (.imul, 1) := by decide +kernel
theorem dX2_record_28 : decode cX2_record 28 = .ok (.iload_n 1, 1) := by decide +kernel
theorem dX2_record_29 : decode cX2_record 29 = .ok (.iadd, 1) := by decide +kernel
theorem dX2_record_30 : decode cX2_record 30 = .ok (.lload_n 2, 1) := by decide +kernel
theorem dX2_record_31 : decode cX2_record 31 = .ok (.lastore, 1) := by decide +kernel
theorem dX2_record_32 : decode cX2_record 32 = .ok (.aload_n 0, 1) := by decide +kernel
theorem dX2_record_33 : decode cX2_record 33 = .ok (.dup, 1) := by decide +kernel
theorem dX2_record_34 : decode cX2_record 34 = .ok (.getfield 48, 3) := by decide +kernel
theorem dX2_record_37 : decode cX2_record 37 = .ok (.iconst 1, 1) := by decide +kernel
theorem dX2_record_38 : decode cX2_record 38 = .ok (.iadd, 1) := by decide +kernel
theorem dX2_record_39 : decode cX2_record 39 = .ok (.putfield 48, 3) := by decide +kernel
theorem dX2_record_42 : decode cX2_record 42 = .ok (.aload_n 0, 1) := by decide +kernel
theorem dX2_record_43 : decode cX2_record 43 = .ok (.getfield 48, 3) := by decide +kernel
theorem dX2_record_46 : decode cX2_record 46 = .ok (.ireturn, 1) := by decide +kernel
set_option maxRecDepth 20000 in
theorem ggX2_run_X2_isClass : GoodIn wsX2_run wsX2_isClass := goodIn_r _ [5, 6, 73, 74, 75, 76, 77, 78, 79, 80, 81, 82, 83, 84, 85, 86, 87, 88] (by decide +kernel) (by decide +kernel)
set_option maxRecDepth 20000 in
theorem gX2_run_X2_isClass : GoodIn wsX2_run (wsV RX2 83 RX2 yX2_isClass wsX2_isClass) := goodIn_app (goodIn_of _ (by decide +kernel)) ggX2_run_X2_isClass
set_option maxRecDepth 20000 in
theorem ggX2_run_X2_isRecord : GoodIn wsX2_run wsX2_isRecord := goodIn_r _ [10, 11, 73, 74, 75, 76, 77, 78, 79, 80, 81, 82, 83, 84, 85, 86, 87, 88] (by decide +kernel) (by decide +kernel)
set_option maxRecDepth 20000 in
theorem gX2_run_X2_isRecord : GoodIn wsX2_run (wsV RX2 86 RX2 yX2_isRecord wsX2_isRecord) := goodIn_app (goodIn_of _ (by decide +kernel)) ggX2_run_X2_isRecord
set_option maxRecDepth 20000 in
theorem ggX2_run_X2_runOne : GoodIn wsX2_run wsX2_runOne := goodIn_r _ [15, 16, 17, 18, 19, 20, 21, 4, 22, 23, 24, 25, 26, 27, 28, 29, 30, 31, 32, 33, 34, 35, 36, 37, 38, 39, 40, 41, 42, 43, 44, 45, 46, 47, 48, 49, 50, 51, 52, 53, 54, 55, 56, 57, 58, 59, 60, 61, 62, 63, 64, 65, 66, 67, 68, 69, 70, 71, 72, 73, 74, 75, 76, 77, 78, 79, 80, 81, 82, 83, 84, 85, 86, 87, 88, 89, 90, 91, 92, 93, 94, 95, 96, 97, 98] (by decide +kernel) (by decide +kernel)
set_option maxRecDepth 20000 in
theorem gX2_run_X2_runOne : GoodIn wsX2_run (wsV RX2 89 RX2 yX2_runOne wsX2_runOne) := goodIn_app (goodIn_of _ (by decide +kernel)) ggX2_run_X2_runOne
theorem dX2_run_0 : decode cX2_run 0 = .ok (.aload_n 0, 1) := by decide +kernel
theorem dX2_run_1 : decode cX2_run 1 = .ok (.iload_n 1, 1) := by decide +kernel
theorem dX2_run_2 : decode cX2_run 2 = .ok (.invokevirtual 83, 3) := by decide +kernel
theorem dX2_run_5 : decode cX2_run 5 = .ok (.ifCond .eq 11, 3) := by decide +kernel
theorem dX2_run_8 : decode cX2_run 8 = .ok (.aload_n 0, 1) := by decide +kernel
theorem dX2_run_9 : decode cX2_run 9 = .ok (.iload_n 2, 1) := by decide +kernel
theorem dX2_run_10 : decode cX2_run 10 = .ok (.invokevirtual 86, 3) := by decide +kernel
theorem dX2_run_13 : decode cX2_run 13 = .ok (.ifCond .ne 5, 3) := by decide +kernel
theorem dX2_run_16 : decode cX2_run 16 = .ok (.iconst (-1), 1) := by decide +kernel
theorem dX2_run_17 : decode cX2_run 17 = .ok (.ireturn, 1) := by decide +kernel
theorem dX2_run_18 : decode cX2_run 18 = .ok (.aload_n 0, 1) := by decide +kernel
theorem dX2_run_19 : decode cX2_run 19 = .ok (.iload_n 1, 1) := by decide +kernel
theorem dX2_run_20 : decode cX2_run 20 = .ok (.iload_n 2, 1) := by decide +kernel
theorem dX2_run_21 : decode cX2_run 21 = .ok (.invokevirtual 89, 3) := by decide +kernel
theorem dX2_run_24 : decode cX2_run 24 = .ok (.istore_n 3, 1) := by decide +kernel
theorem dX2_run_25 : decode cX2_run 25 = .ok (.iload_n 3, 1) := by decide +kernel
theorem dX2_run_26 : decode cX2_run 26 = .ok (.ifCond .ne 7, 3) := by decide +kernel
theorem dX2_run_29 : decode cX2_run 29 = .ok (.iconst 1, 1) := by decide +kernel
theorem dX2_run_30 : decode cX2_run 30 = .ok (.goto 5, 3) := by decide +kernel
theorem dX2_run_33 : decode cX2_run 33 = .ok (.iload_n 3, 1) := by decide +kernel
theorem dX2_run_34 : decode cX2_run 34 = .ok (.ineg, 1) := by decide +kernel
theorem dX2_run_35 : decode cX2_run 35 = .ok (.ireturn, 1) := by decide +kernel
set_option maxRecDepth 20000 in
theorem ggX2_value_X2_isRecord : GoodIn wsX2_value wsX2_isRecord := goodIn_r _ [6, 7, 11, 12, 13, 14, 15, 16, 17, 18, 19, 20, 21, 22, 23, 24, 25, 26] (by decide +kernel) (by decide +kernel)
set_option maxRecDepth 20000 in
theorem gX2_value_X2_isRecord : GoodIn wsX2_value (wsV RX2 86 RX2 yX2_isRecord wsX2_isRecord) := goodIn_app (goodIn_of _ (by decide +kernel)) ggX2_value_X2_isRecord
set_option maxRecDepth 20000 in
theorem ggX2_value_X2_isField : GoodIn wsX2_value wsX2_isField := goodIn_r _ [10] (by decide +kernel) (by decide +kernel)
set_option maxRecDepth 20000 in
theorem gX2_value_X2_isField : GoodIn wsX2_value (va_wsS RX2 79 yX2_isField wsX2_isField) := goodIn_app (goodIn_of _ (by decide +kernel)) ggX2_value_X2_isField
theorem dX2_value_0 : decode cX2_value 0 = .ok (.aload_n 0, 1) := by decide +kernel
theorem dX2_value_1 : decode cX2_value 1 = .ok (.iload_n 1, 1) := by decide +kernel
theorem dX2_value_2 : decode cX2_value 2 = .ok (.invokevirtual 86, 3) := by decide +kernel
theorem dX2_value_5 : decode cX2_value 5 = .ok (.ifCond .eq 10, 3) := by decide +kernel
theorem dX2_value_8 : decode cX2_value 8 = .ok (.iload_n 2, 1) := by decide +kernel
theorem dX2_value_9 : decode cX2_value 9 = .ok (.invokestatic 79, 3) := by decide +kernel
theorem dX2_value_12 : decode cX2_value 12 = .ok (.ifCond .ne 5, 3) := by decide +kernel
theorem dX2_value_15 : decode cX2_value 15 = .ok (.lconst 0, 1) := by decide +kernel
theorem dX2_value_16 : decode cX2_value 16 = .ok (.lreturn, 1) := by decide +kernel
theorem dX2_value_17 : decode cX2_value 17 = .ok (.aload_n 0, 1) := by decide +kernel
theorem dX2_value_18 : decode cX2_value 18 = .ok (.getfield 51, 3) := by decide +kernel
theorem dX2_value_21 : decode cX2_value 21 = .ok (.iload_n 1, 1) := by decide +kernel
theorem dX2_value_22 : decode cX2_value 22 = .ok (.iconst 1, 1) := by decide +kernel
theorem dX2_value_23 : decode cX2_value 23 = .ok (.isub, 1) := by decide +kernel
theorem dX2_value_24 : decode cX2_value 24 = .ok (.iconst 4, 1) := by decide +kernel
theorem dX2_value_25 : decode cX2_value 25 = .ok (.imul, 1) := by decide +kernel
theorem dX2_value_26 : decode cX2_value 26 = .ok (.iload_n 2, 1) := by decide +kernel
theorem dX2_value_27 : decode cX2_value 27 = .ok (.iadd, 1) := by decide +kernel
theorem dX2_value_28 : decode cX2_value 28 = .ok (.laload, 1) := by decide +kernel
theorem dX2_value_29 : decode cX2_value 29 = .ok (.lreturn, 1) := by decide +kernel
set_option maxRecDepth 20000 in
theorem ggX2_failed_X0_look : GoodIn wsX2_failed wsX0_look := goodIn_r _ [5, 6, 7, 8, 9, 26, 27, 28, 29] (by decide +kernel) (by decide +kernel)
set_option maxRecDepth 20000 in
theorem gX2_failed_X0_look_n92 : GoodIn wsX2_failed (wsX0_look) := ggX2_failed_X0_look
theorem dX2_failed_0 : decode cX2_failed 0 = .ok (.aload_n 0, 1) := by decide +kernel
theorem dX2_failed_1 : decode cX2_failed 1 = .ok (.getfield 19, 3) := by decide +kernel
theorem dX2_failed_4 : decode cX2_failed 4 = .ok (.iload_n 1, 1) := by decide +kernel
theorem dX2_failed_5 : decode cX2_failed 5 = .ok (.iload_n 2, 1) := by decide +kernel
theorem dX2_failed_6 : decode cX2_failed 6 = .ok (.invokevirtual 92, 3) := by decide +kernel
theorem dX2_failed_9 : decode cX2_failed 9 = .ok (.ireturn, 1) := by decide +kernel
set_option maxRecDepth 20000 in
theorem ggX2_cell_X2_isClass : GoodIn wsX2_cell wsX2_isClass := goodIn_r _ [6, 7, 8, 9, 10, 11, 12, 13, 14, 15, 16, 17, 18, 19, 20, 21, 22, 23] (by decide +kernel) (by decide +kernel)
set_option maxRecDepth 20000 in
theorem gX2_cell_X2_isClass : GoodIn wsX2_cell (wsV RX2 83 RX2 yX2_isClass wsX2_isClass) := goodIn_app (goodIn_of _ (by decide +kernel)) ggX2_cell_X2_isClass
theorem dX2_cell_0 : decode cX2_cell 0 = .ok (.aload_n 0, 1) := by decide +kernel
theorem dX2_cell_1 : decode cX2_cell 1 = .ok (.iload_n 1, 1) := by decide +kernel
theorem dX2_cell_2 : decode cX2_cell 2 = .ok (.invokevirtual 83, 3) := by decide +kernel
theorem dX2_cell_5 : decode cX2_cell 5 = .ok (.ifCond .eq 14, 3) := by decide +kernel
theorem dX2_cell_8 : decode cX2_cell 8 = .ok (.aload_n 0, 1) := by decide +kernel
theorem dX2_cell_9 : decode cX2_cell 9 = .ok (.getfield 41, 3) := by decide +kernel
theorem dX2_cell_12 : decode cX2_cell 12 = .ok (.iload_n 1, 1) := by decide +kernel
theorem dX2_cell_13 : decode cX2_cell 13 = .ok (.iconst 1, 1) := by decide +kernel
theorem dX2_cell_14 : decode cX2_cell 14 = .ok (.isub, 1) := by decide +kernel
theorem dX2_cell_15 : decode cX2_cell 15 = .ok (.laload, 1) := by decide +kernel
theorem dX2_cell_16 : decode cX2_cell 16 = .ok (.goto 4, 3) := by decide +kernel
theorem dX2_cell_19 : decode cX2_cell 19 = .ok (.lconst 0, 1) := by decide +kernel
theorem dX2_cell_20 : decode cX2_cell 20 = .ok (.lreturn, 1) := by decide +kernel
set_option maxRecDepth 20000 in
theorem ggX2_same_X2_isClass : GoodIn wsX2_same wsX2_isClass := goodIn_r _ [6, 7, 8, 9, 10, 11, 12, 13, 14, 15, 16, 17, 18, 19, 20, 21, 22, 23] (by decide +kernel) (by decide +kernel)
set_option maxRecDepth 20000 in
theorem gX2_same_X2_isClass : GoodIn wsX2_same (wsV RX2 83 RX2 yX2_isClass wsX2_isClass) := goodIn_app (goodIn_of _ (by decide +kernel)) ggX2_same_X2_isClass
theorem dX2_same_0 : decode cX2_same 0 = .ok (.aload_n 0, 1) := by decide +kernel
theorem dX2_same_1 : decode cX2_same 1 = .ok (.iload_n 1, 1) := by decide +kernel
theorem dX2_same_2 : decode cX2_same 2 = .ok (.invokevirtual 83, 3) := by decide +kernel
theorem dX2_same_5 : decode cX2_same 5 = .ok (.ifCond .eq 34, 3) := by decide +kernel
theorem dX2_same_8 : decode cX2_same 8 = .ok (.aload_n 0, 1) := by decide +kernel
theorem dX2_same_9 : decode cX2_same 9 = .ok (.iload_n 2, 1) := by decide +kernel
theorem dX2_same_10 : decode cX2_same 10 = .ok (.invokevirtual 83, 3) := by decide +kernel
theorem dX2_same_13 : decode cX2_same 13 = .ok (.ifCond .eq 26, 3) := by decide +kernel
theorem dX2_same_16 : decode cX2_same 16 = .ok (.aload_n 0, 1) := by decide +kernel
theorem dX2_same_17 : decode cX2_same 17 = .ok (.getfield 38, 3) := by decide +kernel
theorem dX2_same_20 : decode cX2_same 20 = .ok (.iload_n 1, 1) := by decide +kernel
theorem dX2_same_21 : decode cX2_same 21 = .ok (.iconst 1, 1) := by decide +kernel
theorem dX2_same_22 : decode cX2_same 22 = .ok (.isub, 1) := by decide +kernel
theorem dX2_same_23 : decode cX2_same 23 = .ok (.iaload, 1) := by decide +kernel
theorem dX2_same_24 : decode cX2_same 24 = .ok (.aload_n 0, 1) := by decide +kernel
theorem dX2_same_25 : decode cX2_same 25 = .ok (.getfield 38, 3) := by decide +kernel
theorem dX2_same_28 : decode cX2_same 28 = .ok (.iload_n 2, 1) := by decide +kernel
theorem dX2_same_29 : decode cX2_same 29 = .ok (.iconst 1, 1) := by decide +kernel
theorem dX2_same_30 : decode cX2_same 30 = .ok (.isub, 1) := by decide +kernel
theorem dX2_same_31 : decode cX2_same 31 = .ok (.iaload, 1) := by decide +kernel
theorem dX2_same_32 : decode cX2_same 32 = .ok (.if_icmp .ne 7, 3) := by decide +kernel
theorem dX2_same_35 : decode cX2_same 35 = .ok (.iconst 1, 1) := by decide +kernel
theorem dX2_same_36 : decode cX2_same 36 = .ok (.goto 4, 3) := by decide +kernel
theorem dX2_same_39 : decode cX2_same 39 = .ok (.iconst 0, 1) := by decide +kernel
theorem dX2_same_40 : decode cX2_same 40 = .ok (.ireturn, 1) := by decide +kernel
set_option maxRecDepth 20000 in
theorem ggX2_resume_X2_isClass : GoodIn wsX2_resume wsX2_isClass := goodIn_r _ [7, 8, 69, 70, 71, 72, 73, 74, 75, 76, 77, 78, 79, 80, 81, 82, 83, 84] (by decide +kernel) (by decide +kernel)
set_option maxRecDepth 20000 in
theorem gX2_resume_X2_isClass : GoodIn wsX2_resume (wsV RX2 83 RX2 yX2_isClass wsX2_isClass) := goodIn_app (goodIn_of _ (by decide +kernel)) ggX2_resume_X2_isClass
set_option maxRecDepth 20000 in
theorem ggX2_resume_X2_runOne : GoodIn wsX2_resume wsX2_runOne := goodIn_r _ [12, 13, 14, 15, 16, 17, 18, 6, 19, 20, 21, 22, 23, 24, 25, 26, 27, 28, 29, 30, 31, 32, 33, 34, 35, 36, 37, 38, 39, 40, 41, 42, 43, 44, 45, 46, 47, 48, 49, 50, 51, 52, 53, 1, 54, 55, 56, 57, 58, 59, 60, 61, 62, 63, 64, 65, 66, 67, 68, 69, 70, 71, 72, 73, 74, 75, 76, 77, 78, 79, 80, 81, 82, 83, 84, 85, 86, 87, 88, 89, 90, 91, 92, 93, 94] (by decide +kernel) (by decide +kernel)
set_option maxRecDepth 20000 in
theorem gX2_resume_X2_runOne : GoodIn wsX2_resume (wsV RX2 89 RX2 yX2_runOne wsX2_runOne) := goodIn_app (goodIn_of _ (by decide +kernel)) ggX2_resume_X2_runOne
theorem dX2_resume_0 : decode cX2_resume 0 = .ok (.aload_n 0, 1) := by decide +kernel
theorem dX2_resume_1 : decode cX2_resume 1 = .ok (.iload_n 1, 1) := by decide +kernel
theorem dX2_resume_2 : decode cX2_resume 2 = .ok (.invokevirtual 83, 3) := by decide +kernel
theorem dX2_resume_5 : decode cX2_resume 5 = .ok (.ifCond .ne 5, 3) := by decide +kernel
theorem dX2_resume_8 : decode cX2_resume 8 = .ok (.iconst (-1), 1) := by decide +kernel
theorem dX2_resume_9 : decode cX2_resume 9 = .ok (.ireturn, 1) := by decide +kernel
theorem dX2_resume_10 : decode cX2_resume 10 = .ok (.aload_n 0, 1) := by decide +kernel
theorem dX2_resume_11 : decode cX2_resume 11 = .ok (.getfield 45, 3) := by decide +kernel
theorem dX2_resume_14 : decode cX2_resume 14 = .ok (.iload_n 1, 1) := by decide +kernel
theorem dX2_resume_15 : decode cX2_resume 15 = .ok (.iconst 1, 1) := by decide +kernel
theorem dX2_resume_16 : decode cX2_resume 16 = .ok (.isub, 1) := by decide +kernel
theorem dX2_resume_17 : decode cX2_resume 17 = .ok (.iaload, 1) := by decide +kernel
theorem dX2_resume_18 : decode cX2_resume 18 = .ok (.iconst 1, 1) := by decide +kernel
theorem dX2_resume_19 : decode cX2_resume 19 = .ok (.iadd, 1) := by decide +kernel
theorem dX2_resume_20 : decode cX2_resume 20 = .ok (.istore_n 2, 1) := by decide +kernel
theorem dX2_resume_21 : decode cX2_resume 21 = .ok (.iload_n 2, 1) := by decide +kernel
theorem dX2_resume_22 : decode cX2_resume 22 = .ok (.aload_n 0, 1) := by decide +kernel
theorem dX2_resume_23 : decode cX2_resume 23 = .ok (.getfield 48, 3) := by decide +kernel
theorem dX2_resume_26 : decode cX2_resume 26 = .ok (.if_icmp .gt 20, 3) := by decide +kernel
theorem dX2_resume_29 : decode cX2_resume 29 = .ok (.aload_n 0, 1) := by decide +kernel
theorem dX2_resume_30 : decode cX2_resume 30 = .ok (.iload_n 1, 1) := by decide +kernel
theorem dX2_resume_31 : decode cX2_resume 31 = .ok (.iload_n 2, 1) := by decide +kernel
theorem dX2_resume_32 : decode cX2_resume 32 = .ok (.invokevirtual 89, 3) := by decide +kernel
theorem dX2_resume_35 : decode cX2_resume 35 = .ok (.ifCond .eq 5, 3) := by decide +kernel
theorem dX2_resume_38 : decode cX2_resume 38 = .ok (.iload_n 2, 1) := by decide +kernel
theorem dX2_resume_39 : decode cX2_resume 39 = .ok (.ireturn, 1) := by decide +kernel
theorem dX2_resume_40 : decode cX2_resume 40 = .ok (.iinc 2 1, 3) := by decide +kernel
theorem dX2_resume_43 : decode cX2_resume 43 = .ok (.goto (-22), 3) := by decide +kernel
theorem dX2_resume_46 : decode cX2_resume 46 = .ok (.iconst 0, 1) := by decide +kernel
theorem dX2_resume_47 : decode cX2_resume 47 = .ok (.ireturn, 1) := by decide +kernel
set_option maxRecDepth 20000 in
theorem ggX2_divide_X2_isClass : GoodIn wsX2_divide wsX2_isClass := goodIn_r _ [7, 8, 9, 10, 11, 12, 13, 14, 15, 16, 17, 18, 19, 20, 21, 22, 23, 24] (by decide +kernel) (by decide +kernel)
set_option maxRecDepth 20000 in
theorem gX2_divide_X2_isClass : GoodIn wsX2_divide (wsV RX2 83 RX2 yX2_isClass wsX2_isClass) := goodIn_app (goodIn_of _ (by decide +kernel)) ggX2_divide_X2_isClass
theorem dX2_divide_0 : decode cX2_divide 0 = .ok (.aload_n 0, 1) := by decide +kernel
theorem dX2_divide_1 : decode cX2_divide 1 = .ok (.iload_n 1, 1) := by decide +kernel
theorem dX2_divide_2 : decode cX2_divide 2 = .ok (.invokevirtual 83, 3) := by decide +kernel
theorem dX2_divide_5 : decode cX2_divide 5 = .ok (.ifCond .ne 5, 3) := by decide +kernel
theorem dX2_divide_8 : decode cX2_divide 8 = .ok (.lconst 0, 1) := by decide +kernel
theorem dX2_divide_9 : decode cX2_divide 9 = .ok (.lreturn, 1) := by decide +kernel
theorem dX2_divide_10 : decode cX2_divide 10 = .ok (.lload 4, 2) := by decide +kernel
theorem dX2_divide_12 : decode cX2_divide 12 = .ok (.lconst 0, 1) := by decide +kernel
theorem dX2_divide_13 : decode cX2_divide 13 = .ok (.lcmp, 1) := by decide +kernel
theorem dX2_divide_14 : decode cX2_divide 14 = .ok (.ifCond .ne 13, 3) := by decide +kernel
theorem dX2_divide_17 : decode cX2_divide 17 = .ok (.new 95, 3) := by decide +kernel
theorem dX2_divide_20 : decode cX2_divide 20 = .ok (.dup, 1) := by decide +kernel
theorem dX2_divide_21 : decode cX2_divide 21 = .ok (.ldc 97, 2) := by decide +kernel
theorem dX2_divide_23 : decode cX2_divide 23 = .ok (.invokespecial 99, 3) := by decide +kernel
theorem dX2_divide_26 : decode cX2_divide 26 = .ok (.athrow, 1) := by decide +kernel
theorem dX2_divide_27 : decode cX2_divide 27 = .ok (.lload_n 2, 1) := by decide +kernel
theorem dX2_divide_28 : decode cX2_divide 28 = .ok (.lload 4, 2) := by decide +kernel
theorem dX2_divide_30 : decode cX2_divide 30 = .ok (.ldiv, 1) := by decide +kernel
theorem dX2_divide_31 : decode cX2_divide 31 = .ok (.lreturn, 1) := by decide +kernel
set_option maxRecDepth 20000 in
theorem ggX2_dry_X2_isClass : GoodIn wsX2_dry wsX2_isClass := goodIn_r _ [7, 8, 48, 49, 50, 51, 52, 53, 54, 55, 56, 57, 58, 59, 60, 61, 62, 63] (by decide +kernel) (by decide +kernel)
set_option maxRecDepth 20000 in
theorem gX2_dry_X2_isClass : GoodIn wsX2_dry (wsV RX2 83 RX2 yX2_isClass wsX2_isClass) := goodIn_app (goodIn_of _ (by decide +kernel)) ggX2_dry_X2_isClass
set_option maxRecDepth 20000 in
theorem ggX2_dry_X2_isRecord : GoodIn wsX2_dry wsX2_isRecord := goodIn_r _ [12, 13, 48, 49, 50, 51, 52, 53, 54, 55, 56, 57, 58, 59, 60, 61, 62, 63] (by decide +kernel) (by decide +kernel)
set_option maxRecDepth 20000 in
theorem gX2_dry_X2_isRecord : GoodIn wsX2_dry (wsV RX2 86 RX2 yX2_isRecord wsX2_isRecord) := goodIn_app (goodIn_of _ (by decide +kernel)) ggX2_dry_X2_isRecord
set_option maxRecDepth 20000 in
theorem ggX2_dry_X2_attempt : GoodIn wsX2_dry wsX2_attempt := goodIn_r _ [17, 18, 1, 2, 19, 20, 21, 22, 23, 24, 25, 26, 27, 28, 29, 30, 31, 32, 33, 34, 35, 36, 37, 38, 39, 40, 41, 42, 43, 44, 48, 49, 50, 51, 52, 53, 54, 55, 56, 57, 58, 59, 60, 61, 62, 63, 64, 65, 66, 67, 68, 69] (by decide +kernel) (by decide +kernel)
set_option maxRecDepth 20000 in
theorem gX2_dry_X2_attempt : GoodIn wsX2_dry (wsV RX2 102 RX2 yX2_attempt wsX2_attempt) := goodIn_app (goodIn_of _ (by decide +kernel)) ggX2_dry_X2_attempt
set_option maxRecDepth 20000 in
theorem ggX2_dry_X1_countOthers : GoodIn wsX2_dry wsX1_countOthers := goodIn_r _ [47, 27, 28, 29, 30, 64, 65, 66, 67, 68, 69] (by decide +kernel) (by decide +kernel)
set_option maxRecDepth 20000 in
theorem gX2_dry_X1_countOthers_n105 : GoodIn wsX2_dry (wsX1_countOthers) := ggX2_dry_X1_countOthers
theorem dX2_dry_0 : decode cX2_dry 0 = .ok (.aload_n 0, 1) := by decide +kernel
theorem dX2_dry_1 : decode cX2_dry 1 = .ok (.iload_n 1, 1) := by decide +kernel
theorem dX2_dry_2 : decode cX2_dry 2 = .ok (.invokevirtual 83, 3) := by decide +kernel
theorem dX2_dry_5 : decode cX2_dry 5 = .ok (.ifCond .eq 11, 3) := by decide +kernel
theorem dX2_dry_8 : decode cX2_dry 8 = .ok (.aload_n 0, 1) := by decide +kernel
theorem dX2_dry_9 : decode cX2_dry 9 = .ok (.iload_n 2, 1) := by decide +kernel
theorem dX2_dry_10 : decode cX2_dry 10 = .ok (.invokevirtual 86, 3) := by decide +kernel
theorem dX2_dry_13 : decode cX2_dry 13 = .ok (.ifCond .ne 5, 3) := by decide +kernel
theorem dX2_dry_16 : decode cX2_dry 16 = .ok (.iconst (-1), 1) := by decide +kernel
theorem dX2_dry_17 : decode cX2_dry 17 = .ok (.ireturn, 1) := by decide +kernel
theorem dX2_dry_18 : decode cX2_dry 18 = .ok (.aload_n 0, 1) := by decide +kernel
theorem dX2_dry_19 : decode cX2_dry 19 = .ok (.iload_n 1, 1) := by decide +kernel
theorem dX2_dry_20 : decode cX2_dry 20 = .ok (.iload_n 2, 1) := by decide +kernel
theorem dX2_dry_21 : decode cX2_dry 21 = .ok (.invokevirtual 102, 3) := by decide +kernel
theorem dX2_dry_24 : decode cX2_dry 24 = .ok (.istore_n 3, 1) := by decide +kernel
theorem dX2_dry_25 : decode cX2_dry 25 = .ok (.iload_n 3, 1) := by decide +kernel
theorem dX2_dry_26 : decode cX2_dry 26 = .ok (.ifCond .ne 22, 3) := by decide +kernel
theorem dX2_dry_29 : decode cX2_dry 29 = .ok (.aload_n 0, 1) := by decide +kernel
theorem dX2_dry_30 : decode cX2_dry 30 = .ok (.getfield 10, 3) := by decide +kernel
theorem dX2_dry_33 : decode cX2_dry 33 = .ok (.aload_n 0, 1) := by decide +kernel
theorem dX2_dry_34 : decode cX2_dry 34 = .ok (.getfield 51, 3) := by decide +kernel
theorem dX2_dry_37 : decode cX2_dry 37 = .ok (.iload_n 2, 1) := by decide +kernel
theorem dX2_dry_38 : decode cX2_dry 38 = .ok (.iconst 1, 1) := by decide +kernel
theorem dX2_dry_39 : decode cX2_dry 39 = .ok (.isub, 1) := by decide +kernel
theorem dX2_dry_40 : decode cX2_dry 40 = .ok (.iconst 4, 1) := by decide +kernel
theorem dX2_dry_41 : decode cX2_dry 41 = .ok (.imul, 1) := by decide +kernel
theorem dX2_dry_42 : decode cX2_dry 42 = .ok (.invokevirtual 105, 3) := by decide +kernel
theorem dX2_dry_45 : decode cX2_dry 45 = .ok (.goto 5, 3) := by decide +kernel
theorem dX2_dry_48 : decode cX2_dry 48 = .ok (.iload_n 3, 1) := by decide +kernel
theorem dX2_dry_49 : decode cX2_dry 49 = .ok (.ineg, 1) := by decide +kernel
theorem dX2_dry_50 : decode cX2_dry 50 = .ok (.ireturn, 1) := by decide +kernel
theorem dX2_isClass_0 : decode cX2_isClass 0 = .ok (.iload_n 1, 1) := by decide +kernel
theorem dX2_isClass_1 : decode cX2_isClass 1 = .ok (.iconst 1, 1) := by decide +kernel
theorem dX2_isClass_2 : decode cX2_isClass 2 = .ok (.if_icmp .lt 15, 3) := by decide +kernel
theorem dX2_isClass_5 : decode cX2_isClass 5 = .ok (.iload_n 1, 1) := by decide +kernel
theorem dX2_isClass_6 : decode cX2_isClass 6 = .ok (.aload_n 0, 1) := by decide +kernel
theorem dX2_isClass_7 : decode cX2_isClass 7 = .ok (.getfield 35, 3) := by decide +kernel
theorem dX2_isClass_10 : decode cX2_isClass 10 = .ok (.if_icmp .gt 7, 3) := by decide +kernel
theorem dX2_isClass_13 : decode cX2_isClass 13 = .ok (.iconst 1, 1) := by decide +kernel
theorem dX2_isClass_14 : decode cX2_isClass 14 = .ok (.goto 4, 3) := by decide +kernel
theorem dX2_isClass_17 : decode cX2_isClass 17 = .ok (.iconst 0, 1) := by decide +kernel
theorem dX2_isClass_18 : decode cX2_isClass 18 = .ok (.ireturn, 1) := by decide +kernel
theorem dX2_isRecord_0 : decode cX2_isRecord 0 = .ok (.iload_n 1, 1) := by decide +kernel
theorem dX2_isRecord_1 : decode cX2_isRecord 1 = .ok (.iconst 1, 1) := by decide +kernel
theorem dX2_isRecord_2 : decode cX2_isRecord 2 = .ok (.if_icmp .lt 15, 3) := by decide +kernel
theorem dX2_isRecord_5 : decode cX2_isRecord 5 = .ok (.iload_n 1, 1) := by decide +kernel
theorem dX2_isRecord_6 : decode cX2_isRecord 6 = .ok (.aload_n 0, 1) := by decide +kernel
theorem dX2_isRecord_7 : decode cX2_isRecord 7 = .ok (.getfield 48, 3) := by decide +kernel
theorem dX2_isRecord_10 : decode cX2_isRecord 10 = .ok (.if_icmp .gt 7, 3) := by decide +kernel
theorem dX2_isRecord_13 : decode cX2_isRecord 13 = .ok (.iconst 1, 1) := by decide +kernel
theorem dX2_isRecord_14 : decode cX2_isRecord 14 = .ok (.goto 4, 3) := by decide +kernel
theorem dX2_isRecord_17 : decode cX2_isRecord 17 = .ok (.iconst 0, 1) := by decide +kernel
theorem dX2_isRecord_18 : decode cX2_isRecord 18 = .ok (.ireturn, 1) := by decide +kernel
theorem dX2_isField_0 : decode cX2_isField 0 = .ok (.iload_n 0, 1) := by decide +kernel
theorem dX2_isField_1 : decode cX2_isField 1 = .ok (.ifCond .lt 12, 3) := by decide +kernel
theorem dX2_isField_4 : decode cX2_isField 4 = .ok (.iload_n 0, 1) := by decide +kernel
theorem dX2_isField_5 : decode cX2_isField 5 = .ok (.iconst 4, 1) := by decide +kernel
theorem dX2_isField_6 : decode cX2_isField 6 = .ok (.if_icmp .ge 7, 3) := by decide +kernel
theorem dX2_isField_9 : decode cX2_isField 9 = .ok (.iconst 1, 1) := by decide +kernel
theorem dX2_isField_10 : decode cX2_isField 10 = .ok (.goto 4, 3) := by decide +kernel
theorem dX2_isField_13 : decode cX2_isField 13 = .ok (.iconst 0, 1) := by decide +kernel
theorem dX2_isField_14 : decode cX2_isField 14 = .ok (.ireturn, 1) := by decide +kernel
set_option maxRecDepth 20000 in
theorem ggX2_runOne_X2_attempt : GoodIn wsX2_runOne wsX2_attempt := goodIn_r _ [8, 9, 10, 11, 12, 13, 14, 15, 16, 17, 18, 19, 20, 21, 22, 23, 24, 25, 26, 27, 28, 29, 30, 31, 32, 33, 34, 35, 36, 37, 59, 60, 61, 62, 63, 64, 65, 66, 67, 68, 69, 70, 71, 72, 73, 74, 75, 76, 77, 78, 79, 80] (by decide +kernel) (by decide +kernel)
set_option maxRecDepth 20000 in
theorem gX2_runOne_X2_attempt : GoodIn wsX2_runOne (wsV RX2 102 RX2 yX2_attempt wsX2_attempt) := goodIn_app (goodIn_of _ (by decide +kernel)) ggX2_runOne_X2_attempt
set_option maxRecDepth 20000 in
theorem ggX2_runOne_X2_keep : GoodIn wsX2_runOne wsX2_keep := goodIn_r _ [41, 10, 11, 12, 9, 42, 43, 44, 45, 46, 47, 48, 17, 49, 50, 20, 21, 22, 23, 59, 60, 61, 62, 63, 64, 65, 66, 67, 68, 69, 70, 71, 72, 73, 74, 75, 76, 77, 78, 79, 80] (by decide +kernel) (by decide +kernel)
set_option maxRecDepth 20000 in
theorem gX2_runOne_X2_keep : GoodIn wsX2_runOne (wsV RX2 120 RX2 yX2_keep wsX2_keep) := goodIn_app (goodIn_of _ (by decide +kernel)) ggX2_runOne_X2_keep
set_option maxRecDepth 20000 in
theorem ggX2_runOne_X0_note : GoodIn wsX2_runOne wsX0_note := goodIn_r _ [54, 55, 56, 57, 58, 81, 82, 83, 84] (by decide +kernel) (by decide +kernel)
set_option maxRecDepth 20000 in
theorem gX2_runOne_X0_note_n124 : GoodIn wsX2_runOne (wsX0_note) := ggX2_runOne_X0_note
theorem dX2_runOne_0 : decode cX2_runOne 0 = .ok (.aload_n 0, 1) := by decide +kernel
theorem dX2_runOne_1 : decode cX2_runOne 1 = .ok (.iload_n 1, 1) := by decide +kernel
theorem dX2_runOne_2 : decode cX2_runOne 2 = .ok (.iload_n 2, 1) := by decide +kernel
theorem dX2_runOne_3 : decode cX2_runOne 3 = .ok (.invokevirtual 102, 3) := by decide +kernel
theorem dX2_runOne_6 : decode cX2_runOne 6 = .ok (.istore_n 3, 1) := by decide +kernel
theorem dX2_runOne_7 : decode cX2_runOne 7 = .ok (.aload_n 0, 1) := by decide +kernel
theorem dX2_runOne_8 : decode cX2_runOne 8 = .ok (.iload_n 2, 1) := by decide +kernel
theorem dX2_runOne_9 : decode cX2_runOne 9 = .ok (.putfield 60, 3) := by decide +kernel
theorem dX2_runOne_12 : decode cX2_runOne 12 = .ok (.aload_n 0, 1) := by decide +kernel
theorem dX2_runOne_13 : decode cX2_runOne 13 = .ok (.iload_n 3, 1) := by decide +kernel
theorem dX2_runOne_14 : decode cX2_runOne 14 = .ok (.ifCond .ne 7, 3) := by decide +kernel
theorem dX2_runOne_17 : decode cX2_runOne 17 = .ok (.iconst 1, 1) := by decide +kernel
theorem dX2_runOne_18 : decode cX2_runOne 18 = .ok (.goto 4, 3) := by decide +kernel
theorem dX2_runOne_21 : decode cX2_runOne 21 = .ok (.iconst 0, 1) := by decide +kernel
theorem dX2_runOne_22 : decode cX2_runOne 22 = .ok (.putfield 63, 3) := by decide +kernel
theorem dX2_runOne_25 : decode cX2_runOne 25 = .ok (.iload_n 3, 1) := by decide +kernel
theorem dX2_runOne_26 : decode cX2_runOne 26 = .ok (.ifCond .ne 12, 3) := by decide +kernel
theorem dX2_runOne_29 : decode cX2_runOne 29 = .ok (.aload_n 0, 1) := by decide +kernel
theorem dX2_runOne_30 : decode cX2_runOne 30 = .ok (.iload_n 1, 1) := by decide +kernel
theorem dX2_runOne_31 : decode cX2_runOne 31 = .ok (.iload_n 2, 1) := by decide +kernel
theorem dX2_runOne_32 : decode cX2_runOne 32 = .ok (.invokevirtual 120, 3) := by decide +kernel
theorem dX2_runOne_35 : decode cX2_runOne 35 = .ok (.goto 13, 3) := by decide +kernel
theorem dX2_runOne_38 : decode cX2_runOne 38 = .ok (.aload_n 0, 1) := by decide +kernel
theorem dX2_runOne_39 : decode cX2_runOne 39 = .ok (.getfield 19, 3) := by decide +kernel
theorem dX2_runOne_42 : decode cX2_runOne 42 = .ok (.iload_n 2, 1) := by decide +kernel
theorem dX2_runOne_43 : decode cX2_runOne 43 = .ok (.iload_n 3, 1) := by decide +kernel
theorem dX2_runOne_44 : decode cX2_runOne 44 = .ok (.iload_n 1, 1) := by decide +kernel
theorem dX2_runOne_45 : decode cX2_runOne 45 = .ok (.invokevirtual 124, 3) := by decide +kernel
theorem dX2_runOne_48 : decode cX2_runOne 48 = .ok (.iload_n 3, 1) := by decide +kernel
theorem dX2_runOne_49 : decode cX2_runOne 49 = .ok (.ireturn, 1) := by decide +kernel
set_option maxRecDepth 20000 in
theorem ggX2_attempt_X1_load : GoodIn wsX2_attempt wsX1_load := goodIn_r _ [11, 12, 13, 14, 15, 16, 17, 46, 47, 48, 49, 50, 51] (by decide +kernel) (by decide +kernel)
set_option maxRecDepth 20000 in
theorem gX2_attempt_X1_load_n128 : GoodIn wsX2_attempt (wsX1_load) := ggX2_attempt_X1_load
set_option maxRecDepth 20000 in
theorem ggX2_attempt_X1_perform : GoodIn wsX2_attempt wsX1_perform := goodIn_r _ [20, 12, 14, 21, 22, 23, 9, 24, 25, 13, 17, 16, 15, 26, 27, 28, 29, 46, 47, 48, 49, 50, 51] (by decide +kernel) (by decide +kernel)
set_option maxRecDepth 20000 in
theorem gX2_attempt_X1_perform_n132 : GoodIn wsX2_attempt (wsX1_perform) := ggX2_attempt_X1_perform
theorem dX2_attempt_0 : decode cX2_attempt 0 = .ok (.aload_n 0, 1) := by decide +kernel
theorem dX2_attempt_1 : decode cX2_attempt 1 = .ok (.getfield 54, 3) := by decide +kernel
theorem dX2_attempt_4 : decode cX2_attempt 4 = .ok (.iload_n 2, 1) := by decide +kernel
theorem dX2_attempt_5 : decode cX2_attempt 5 = .ok (.iconst 1, 1) := by decide +kernel
theorem dX2_attempt_6 : decode cX2_attempt 6 = .ok (.isub, 1) := by decide +kernel
theorem dX2_attempt_7 : decode cX2_attempt 7 = .ok (.baload, 1) := by decide +kernel
theorem dX2_attempt_8 : decode cX2_attempt 8 = .ok (.ifCond .eq 5, 3) := by decide +kernel
theorem dX2_attempt_11 : decode cX2_attempt 11 = .ok (.iconst 5, 1) := by decide +kernel
theorem dX2_attempt_12 : decode cX2_attempt 12 = .ok (.ireturn, 1) := by decide +kernel
theorem dX2_attempt_13 : decode cX2_attempt 13 = .ok (.aload_n 0, 1) := by decide +kernel
theorem dX2_attempt_14 : decode cX2_attempt 14 = .ok (.getfield 10, 3) := by decide +kernel
theorem dX2_attempt_17 : decode cX2_attempt 17 = .ok (.aload_n 0, 1) := by decide +kernel
theorem dX2_attempt_18 : decode cX2_attempt 18 = .ok (.getfield 51, 3) := by decide +kernel
theorem dX2_attempt_21 : decode cX2_attempt 21 = .ok (.iload_n 2, 1) := by decide +kernel
theorem dX2_attempt_22 : decode cX2_attempt 22 = .ok (.iconst 1, 1) := by decide +kernel
theorem dX2_attempt_23 : decode cX2_attempt 23 = .ok (.isub, 1) := by decide +kernel
theorem dX2_attempt_24 : decode cX2_attempt 24 = .ok (.iconst 4, 1) := by decide +kernel
theorem dX2_attempt_25 : decode cX2_attempt 25 = .ok (.imul, 1) := by decide +kernel
theorem dX2_attempt_26 : decode cX2_attempt 26 = .ok (.aload_n 0, 1) := by decide +kernel
theorem dX2_attempt_27 : decode cX2_attempt 27 = .ok (.getfield 41, 3) := by decide +kernel
theorem dX2_attempt_30 : decode cX2_attempt 30 = .ok (.iload_n 1, 1) := by decide +kernel
theorem dX2_attempt_31 : decode cX2_attempt 31 = .ok (.iconst 1, 1) := by decide +kernel
theorem dX2_attempt_32 : decode cX2_attempt 32 = .ok (.isub, 1) := by decide +kernel
theorem dX2_attempt_33 : decode cX2_attempt 33 = .ok (.laload, 1) := by decide +kernel
theorem dX2_attempt_34 : decode cX2_attempt 34 = .ok (.invokevirtual 128, 3) := by decide +kernel
theorem dX2_attempt_37 : decode cX2_attempt 37 = .ok (.aload_n 0, 1) := by decide +kernel
theorem dX2_attempt_38 : decode cX2_attempt 38 = .ok (.getfield 10, 3) := by decide +kernel
theorem dX2_attempt_41 : decode cX2_attempt 41 = .ok (.aload_n 0, 1) := by decide +kernel
theorem dX2_attempt_42 : decode cX2_attempt 42 = .ok (.getfield 27, 3) := by decide +kernel
theorem dX2_attempt_45 : decode cX2_attempt 45 = .ok (.aload_n 0, 1) := by decide +kernel
theorem dX2_attempt_46 : decode cX2_attempt 46 = .ok (.getfield 38, 3) := by decide +kernel
theorem dX2_attempt_49 : decode cX2_attempt 49 = .ok (.iload_n 1, 1) := by decide +kernel
theorem dX2_attempt_50 : decode cX2_attempt 50 = .ok (.iconst 1, 1) := by decide +kernel
theorem dX2_attempt_51 : decode cX2_attempt 51 = .ok (.isub, 1) := by decide +kernel
theorem dX2_attempt_52 : decode cX2_attempt 52 = .ok (.iaload, 1) := by decide +kernel
theorem dX2_attempt_53 : decode cX2_attempt 53 = .ok (.iconst 1, 1) := by decide +kernel
theorem dX2_attempt_54 : decode cX2_attempt 54 = .ok (.isub, 1) := by decide +kernel
theorem dX2_attempt_55 : decode cX2_attempt 55 = .ok (.iaload, 1) := by decide +kernel
theorem dX2_attempt_56 : decode cX2_attempt 56 = .ok (.aload_n 0, 1) := by decide +kernel
theorem dX2_attempt_57 : decode cX2_attempt 57 = .ok (.getfield 76, 3) := by decide +kernel
theorem dX2_attempt_60 : decode cX2_attempt 60 = .ok (.invokevirtual 132, 3) := by decide +kernel
theorem dX2_attempt_63 : decode cX2_attempt 63 = .ok (.ireturn, 1) := by decide +kernel
set_option maxRecDepth 20000 in
theorem ggX2_keep_X1_store : GoodIn wsX2_keep wsX1_store := goodIn_r _ [14, 15, 16, 17, 18, 35, 36, 37, 38, 39, 40] (by decide +kernel) (by decide +kernel)
set_option maxRecDepth 20000 in
theorem gX2_keep_X1_store_n135 : GoodIn wsX2_keep (wsX1_store) := ggX2_keep_X1_store
theorem dX2_keep_0 : decode cX2_keep 0 = .ok (.aload_n 0, 1) := by decide +kernel
theorem dX2_keep_1 : decode cX2_keep 1 = .ok (.getfield 10, 3) := by decide +kernel
theorem dX2_keep_4 : decode cX2_keep 4 = .ok (.aload_n 0, 1) := by decide +kernel
theorem dX2_keep_5 : decode cX2_keep 5 = .ok (.getfield 51, 3) := by decide +kernel
theorem dX2_keep_8 : decode cX2_keep 8 = .ok (.iload_n 2, 1) := by decide +kernel
theorem dX2_keep_9 : decode cX2_keep 9 = .ok (.iconst 1, 1) := by decide +kernel
theorem dX2_keep_10 : decode cX2_keep 10 = .ok (.isub, 1) := by decide +kernel
theorem dX2_keep_11 : decode cX2_keep 11 = .ok (.iconst 4, 1) := by decide +kernel
theorem dX2_keep_12 : decode cX2_keep 12 = .ok (.imul, 1) := by decide +kernel
theorem dX2_keep_13 : decode cX2_keep 13 = .ok (.invokevirtual 135, 3) := by decide +kernel
theorem dX2_keep_16 : decode cX2_keep 16 = .ok (.aload_n 0, 1) := by decide +kernel
theorem dX2_keep_17 : decode cX2_keep 17 = .ok (.getfield 41, 3) := by decide +kernel
theorem dX2_keep_20 : decode cX2_keep 20 = .ok (.iload_n 1, 1) := by decide +kernel
theorem dX2_keep_21 : decode cX2_keep 21 = .ok (.iconst 1, 1) := by decide +kernel
theorem dX2_keep_22 : decode cX2_keep 22 = .ok (.isub, 1) := by decide +kernel
theorem dX2_keep_23 : decode cX2_keep 23 = .ok (.aload_n 0, 1) := by decide +kernel
theorem dX2_keep_24 : decode cX2_keep 24 = .ok (.getfield 10, 3) := by decide +kernel
theorem dX2_keep_27 : decode cX2_keep 27 = .ok (.getfield 139, 3) := by decide +kernel
theorem dX2_keep_30 : decode cX2_keep 30 = .ok (.lastore, 1) := by decide +kernel
theorem dX2_keep_31 : decode cX2_keep 31 = .ok (.aload_n 0, 1) := by decide +kernel
theorem dX2_keep_32 : decode cX2_keep 32 = .ok (.getfield 54, 3) := by decide +kernel
theorem dX2_keep_35 : decode cX2_keep 35 = .ok (.iload_n 2, 1) := by decide +kernel
theorem dX2_keep_36 : decode cX2_keep 36 = .ok (.iconst 1, 1) := by decide +kernel
theorem dX2_keep_37 : decode cX2_keep 37 = .ok (.isub, 1) := by decide +kernel
theorem dX2_keep_38 : decode cX2_keep 38 = .ok (.aload_n 0, 1) := by decide +kernel
theorem dX2_keep_39 : decode cX2_keep 39 = .ok (.getfield 10, 3) := by decide +kernel
theorem dX2_keep_42 : decode cX2_keep 42 = .ok (.getfield 143, 3) := by decide +kernel
theorem dX2_keep_45 : decode cX2_keep 45 = .ok (.bastore, 1) := by decide +kernel
theorem dX2_keep_46 : decode cX2_keep 46 = .ok (.aload_n 0, 1) := by decide +kernel
theorem dX2_keep_47 : decode cX2_keep 47 = .ok (.getfield 57, 3) := by decide +kernel
theorem dX2_keep_50 : decode cX2_keep 50 = .ok (.iload_n 2, 1) := by decide +kernel
theorem dX2_keep_51 : decode cX2_keep 51 = .ok (.iconst 1, 1) := by decide +kernel
theorem dX2_keep_52 : decode cX2_keep 52 = .ok (.isub, 1) := by decide +kernel
theorem dX2_keep_53 : decode cX2_keep 53 = .ok (.dup2, 1) := by decide +kernel
theorem dX2_keep_54 : decode cX2_keep 54 = .ok (.laload, 1) := by decide +kernel
theorem dX2_keep_55 : decode cX2_keep 55 = .ok (.lconst 1, 1) := by decide +kernel
theorem dX2_keep_56 : decode cX2_keep 56 = .ok (.iload_n 1, 1) := by decide +kernel
theorem dX2_keep_57 : decode cX2_keep 57 = .ok (.iconst 1, 1) := by decide +kernel
theorem dX2_keep_58 : decode cX2_keep 58 = .ok (.isub, 1) := by decide +kernel
theorem dX2_keep_59 : decode cX2_keep 59 = .ok (.lshl, 1) := by decide +kernel
theorem dX2_keep_60 : decode cX2_keep 60 = .ok (.lor, 1) := by decide +kernel
theorem dX2_keep_61 : decode cX2_keep 61 = .ok (.lastore, 1) := by decide +kernel
theorem dX2_keep_62 : decode cX2_keep 62 = .ok (.aload_n 0, 1) := by decide +kernel
theorem dX2_keep_63 : decode cX2_keep 63 = .ok (.getfield 45, 3) := by decide +kernel
theorem dX2_keep_66 : decode cX2_keep 66 = .ok (.iload_n 1, 1) := by decide +kernel
theorem dX2_keep_67 : decode cX2_keep 67 = .ok (.iconst 1, 1) := by decide +kernel
theorem dX2_keep_68 : decode cX2_keep 68 = .ok (.isub, 1) := by decide +kernel
theorem dX2_keep_69 : decode cX2_keep 69 = .ok (.aload_n 0, 1) := by decide +kernel
theorem dX2_keep_70 : decode cX2_keep 70 = .ok (.getfield 45, 3) := by decide +kernel
theorem dX2_keep_73 : decode cX2_keep 73 = .ok (.iload_n 1, 1) := by decide +kernel
theorem dX2_keep_74 : decode cX2_keep 74 = .ok (.iconst 1, 1) := by decide +kernel
theorem dX2_keep_75 : decode cX2_keep 75 = .ok (.isub, 1) := by decide +kernel
theorem dX2_keep_76 : decode cX2_keep 76 = .ok (.iaload, 1) := by decide +kernel
theorem dX2_keep_77 : decode cX2_keep 77 = .ok (.iload_n 2, 1) := by decide +kernel
theorem dX2_keep_78 : decode cX2_keep 78 = .ok (.invokestatic 73, 3) := by decide +kernel
theorem dX2_keep_81 : decode cX2_keep 81 = .ok (.iastore, 1) := by decide +kernel
theorem dX2_keep_82 : decode cX2_keep 82 = .ok (.return_, 1) := by decide +kernel
theorem dJ9_max_7cf53_0 : decode cJ9_max_7cf53 0 = .ok (.iload_n 0, 1) := by decide +kernel
theorem dJ9_max_7cf53_1 : decode cJ9_max_7cf53 1 = .ok (.iload_n 1, 1) := by decide +kernel
theorem dJ9_max_7cf53_2 : decode cJ9_max_7cf53 2 = .ok (.if_icmp .lt 7, 3) := by decide +kernel
theorem dJ9_max_7cf53_5 : decode cJ9_max_7cf53 5 = .ok (.iload_n 0, 1) := by decide +kernel
theorem dJ9_max_7cf53_6 : decode cJ9_max_7cf53 6 = .ok (.goto 4, 3) := by decide +kernel
theorem dJ9_max_7cf53_9 : decode cJ9_max_7cf53 9 = .ok (.iload_n 1, 1) := by decide +kernel
theorem dJ9_max_7cf53_10 : decode cJ9_max_7cf53 10 = .ok (.ireturn, 1) := by decide +kernel
theorem dJ9_min_7cf53_0 : decode cJ9_min_7cf53 0 = .ok (.iload_n 0, 1) := by decide +kernel
theorem dJ9_min_7cf53_1 : decode cJ9_min_7cf53 1 = .ok (.iload_n 1, 1) := by decide +kernel
theorem dJ9_min_7cf53_2 : decode cJ9_min_7cf53 2 = .ok (.if_icmp .gt 7, 3) := by decide +kernel
theorem dJ9_min_7cf53_5 : decode cJ9_min_7cf53 5 = .ok (.iload_n 0, 1) := by decide +kernel
theorem dJ9_min_7cf53_6 : decode cJ9_min_7cf53 6 = .ok (.goto 4, 3) := by decide +kernel
theorem dJ9_min_7cf53_9 : decode cJ9_min_7cf53 9 = .ok (.iload_n 1, 1) := by decide +kernel
theorem dJ9_min_7cf53_10 : decode cJ9_min_7cf53 10 = .ok (.ireturn, 1) := by decide +kernel
theorem dL_cell_0 : decode cL_cell 0 = .ok (.iload_n 1, 1) := by decide +kernel
theorem dL_cell_1 : decode cL_cell 1 = .ok (.aload_n 0, 1) := by decide +kernel
theorem dL_cell_2 : decode cL_cell 2 = .ok (.arraylength, 1) := by decide +kernel
theorem dL_cell_3 : decode cL_cell 3 = .ok (.if_icmp .ge 9, 3) := by decide +kernel
theorem dL_cell_6 : decode cL_cell 6 = .ok (.aload_n 0, 1) := by decide +kernel
theorem dL_cell_7 : decode cL_cell 7 = .ok (.iload_n 1, 1) := by decide +kernel
theorem dL_cell_8 : decode cL_cell 8 = .ok (.iaload, 1) := by decide +kernel
theorem dL_cell_9 : decode cL_cell 9 = .ok (.goto 4, 3) := by decide +kernel
theorem dL_cell_12 : decode cL_cell 12 = .ok (.iconst 0, 1) := by decide +kernel
theorem dL_cell_13 : decode cL_cell 13 = .ok (.ireturn, 1) := by decide +kernel
set_option maxRecDepth 20000 in
theorem ggL_divide_X2_divide : GoodIn wsL_divide wsX2_divide := goodIn_ca (goodIn_r _ [6, 7, 8, 9, 10, 11, 5, 12, 13, 14, 15, 16, 17, 18, 19, 20, 21, 22, 23, 24, 25, 26, 27, 28, 29] (by decide +kernel) (by decide +kernel)) (goodIn_sub (fun _ h => List.mem_cons_of_mem _ (List.mem_append_right _ h)) (by decide +kernel))
set_option maxRecDepth 20000 in
theorem gL_divide_X2_divide : GoodIn wsL_divide (wsV RL 7 RX2 yX2_divide wsX2_divide) := goodIn_app (goodIn_of _ (by decide +kernel)) ggL_divide_X2_divide
theorem dL_divide_0 : decode cL_divide 0 = .ok (.aload 6, 2) := by decide +kernel
theorem dL_divide_2 : decode cL_divide 2 = .ok (.iconst 0, 1) := by decide +kernel
theorem dL_divide_3 : decode cL_divide 3 = .ok (.aload_n 0, 1) := by decide +kernel
theorem dL_divide_4 : decode cL_divide 4 = .ok (.iload_n 1, 1) := by decide +kernel
theorem dL_divide_5 : decode cL_divide 5 = .ok (.lload_n 2, 1) := by decide +kernel
theorem dL_divide_6 : decode cL_divide 6 = .ok (.lload 4, 2) := by decide +kernel
theorem dL_divide_8 : decode cL_divide 8 = .ok (.invokevirtual 7, 3) := by decide +kernel
theorem dL_divide_11 : decode cL_divide 11 = .ok (.lastore, 1) := by decide +kernel
theorem dL_divide_12 : decode cL_divide 12 = .ok (.goto 7, 3) := by decide +kernel
theorem dL_divide_15 : decode cL_divide 15 = .ok (.astore 7, 2) := by decide +kernel
theorem dL_divide_17 : decode cL_divide 17 = .ok (.iconst 1, 1) := by decide +kernel
theorem dL_divide_18 : decode cL_divide 18 = .ok (.ireturn, 1) := by decide +kernel
theorem dL_divide_19 : decode cL_divide 19 = .ok (.iconst 0, 1) := by decide +kernel
theorem dL_divide_20 : decode cL_divide 20 = .ok (.ireturn, 1) := by decide +kernel
set_option maxRecDepth 20000 in
theorem ggL_law_L_cell : GoodIn wsL_law wsL_cell := goodIn_r _ [7] (by decide +kernel) (by decide +kernel)
set_option maxRecDepth 20000 in
theorem gL_law_L_cell : GoodIn wsL_law (va_wsS RL 21 yL_cell wsL_cell) := goodIn_app (goodIn_of _ (by decide +kernel)) ggL_law_L_cell
set_option maxRecDepth 20000 in
theorem ggL_law_X2_init : GoodIn wsL_law wsX2_init := goodIn_r _ [10, 11, 12, 13, 14, 15, 16, 17, 18, 19, 20, 21, 22, 23, 24, 25, 26, 27, 28, 3, 29, 30, 31, 32, 33, 34, 35, 36, 37, 38, 39, 40, 41, 42, 43, 44, 45, 46, 47, 48, 49, 50, 51, 52, 53, 54, 55, 56, 57, 58, 59, 60, 177, 178, 179, 180, 181, 182, 161, 162, 163, 164, 165, 166, 167, 168, 169, 170, 171, 172, 173, 174, 175, 176, 183, 184, 185, 186] (by decide +kernel) (by decide +kernel)
set_option maxRecDepth 20000 in
theorem gL_law_X2_init : GoodIn wsL_law (wsX2_init) := ggL_law_X2_init
set_option maxRecDepth 20000 in
theorem ggL_law_X2_type : GoodIn wsL_law wsX2_type := goodIn_r _ [64, 22, 24, 26, 161, 162, 163, 164, 165, 166, 167, 168, 169, 170, 171, 172, 173, 174, 175, 176] (by decide +kernel) (by decide +kernel)
set_option maxRecDepth 20000 in
theorem gL_law_X2_type : GoodIn wsL_law (wsV RL 33 RX2 yX2_type wsX2_type) := goodIn_app (goodIn_of _ (by decide +kernel)) ggL_law_X2_type
set_option maxRecDepth 20000 in
theorem ggL_law_X2_make : GoodIn wsL_law wsX2_make := goodIn_r _ [68, 22, 26, 27, 28, 161, 162, 163, 164, 165, 166, 167, 168, 169, 170, 171, 172, 173, 174, 175, 176] (by decide +kernel) (by decide +kernel)
set_option maxRecDepth 20000 in
theorem gL_law_X2_make : GoodIn wsL_law (wsV RL 38 RX2 yX2_make wsX2_make) := goodIn_app (goodIn_of _ (by decide +kernel)) ggL_law_X2_make
set_option maxRecDepth 20000 in
theorem ggL_law_X2_record : GoodIn wsL_law wsX2_record := goodIn_r _ [72, 31, 32, 73, 74, 2, 75, 161, 162, 163, 164, 165, 166, 167, 168, 169, 170, 171, 172, 173, 174, 175, 176] (by decide +kernel) (by decide +kernel)
set_option maxRecDepth 20000 in
theorem gL_law_X2_record : GoodIn wsL_law (wsV RL 44 RX2 yX2_record wsX2_record) := goodIn_app (goodIn_of _ (by decide +kernel)) ggL_law_X2_record
set_option maxRecDepth 20000 in
theorem ggL_law_X2_run : GoodIn wsL_law wsX2_run := goodIn_r _ [79, 80, 81, 82, 2, 83, 27, 84, 85, 86, 87, 31, 88, 89, 90, 91, 35, 36, 21, 92, 93, 94, 95, 33, 17, 32, 29, 24, 28, 44, 96, 16, 97, 98, 48, 49, 50, 51, 52, 53, 99, 100, 101, 102, 103, 104, 105, 106, 107, 108, 109, 110, 111, 112, 113, 114, 34, 30, 41, 42, 39, 43, 115, 116, 117, 118, 20, 119, 120, 57, 58, 59, 60, 161, 162, 163, 164, 165, 166, 167, 168, 169, 170, 171, 172, 173, 174, 175, 176, 177, 178, 179, 180, 181, 182, 183, 184, 185, 186] (by decide +kernel) (by decide +kernel)
set_option maxRecDepth 20000 in
theorem gL_law_X2_run : GoodIn wsL_law (wsV RL 49 RX2 yX2_run wsX2_run) := goodIn_app (goodIn_of _ (by decide +kernel)) ggL_law_X2_run
set_option maxRecDepth 20000 in
theorem ggL_law_X2_value : GoodIn wsL_law wsX2_value := goodIn_r _ [124, 32, 84, 85, 86, 2, 87, 31, 73, 74, 75, 161, 162, 163, 164, 165, 166, 167, 168, 169, 170, 171, 172, 173, 174, 175, 176] (by decide +kernel) (by decide +kernel)
set_option maxRecDepth 20000 in
theorem gL_law_X2_value : GoodIn wsL_law (wsV RL 54 RX2 yX2_value wsX2_value) := goodIn_app (goodIn_of _ (by decide +kernel)) ggL_law_X2_value
set_option maxRecDepth 20000 in
theorem ggL_law_X2_failed : GoodIn wsL_law wsX2_failed := goodIn_r _ [128, 21, 129, 20, 130, 131, 57, 58, 59, 60, 161, 162, 163, 164, 165, 166, 167, 168, 169, 170, 171, 172, 173, 174, 175, 176, 183, 184, 185, 186] (by decide +kernel) (by decide +kernel)
set_option maxRecDepth 20000 in
theorem gL_law_X2_failed : GoodIn wsL_law (wsV RL 59 RX2 yX2_failed wsX2_failed) := goodIn_app (goodIn_of _ (by decide +kernel)) ggL_law_X2_failed
set_option maxRecDepth 20000 in
theorem ggL_law_X2_cell : GoodIn wsL_law wsX2_cell := goodIn_r _ [135, 29, 80, 81, 82, 2, 83, 27, 161, 162, 163, 164, 165, 166, 167, 168, 169, 170, 171, 172, 173, 174, 175, 176] (by decide +kernel) (by decide +kernel)
set_option maxRecDepth 20000 in
theorem gL_law_X2_cell : GoodIn wsL_law (wsV RL 63 RX2 yX2_cell wsX2_cell) := goodIn_app (goodIn_of _ (by decide +kernel)) ggL_law_X2_cell
set_option maxRecDepth 20000 in
theorem ggL_law_X2_same : GoodIn wsL_law wsX2_same := goodIn_r _ [139, 28, 80, 81, 82, 2, 83, 27, 161, 162, 163, 164, 165, 166, 167, 168, 169, 170, 171, 172, 173, 174, 175, 176] (by decide +kernel) (by decide +kernel)
set_option maxRecDepth 20000 in
theorem gL_law_X2_same : GoodIn wsL_law (wsV RL 67 RX2 yX2_same wsX2_same) := goodIn_app (goodIn_of _ (by decide +kernel)) ggL_law_X2_same
set_option maxRecDepth 20000 in
theorem ggL_law_X2_resume : GoodIn wsL_law wsX2_resume := goodIn_r _ [143, 30, 31, 80, 81, 82, 2, 83, 27, 88, 89, 90, 91, 35, 36, 21, 92, 93, 94, 95, 33, 17, 32, 29, 24, 28, 44, 96, 16, 97, 98, 48, 49, 50, 51, 52, 53, 99, 100, 101, 102, 103, 104, 105, 106, 107, 108, 109, 110, 111, 112, 113, 114, 34, 41, 42, 39, 43, 115, 116, 117, 118, 20, 119, 120, 57, 58, 59, 60, 161, 162, 163, 164, 165, 166, 167, 168, 169, 170, 171, 172, 173, 174, 175, 176, 177, 178, 179, 180, 181, 182, 183, 184, 185, 186] (by decide +kernel) (by decide +kernel)
set_option maxRecDepth 20000 in
theorem gL_law_X2_resume : GoodIn wsL_law (wsV RL 72 RX2 yX2_resume wsX2_resume) := goodIn_app (goodIn_of _ (by decide +kernel)) ggL_law_X2_resume
set_option maxRecDepth 20000 in
theorem ggL_law_L_divide : GoodIn wsL_law wsL_divide := goodIn_ca (goodIn_r _ [146, 147, 148, 149, 150, 2, 151, 152, 153, 80, 81, 82, 83, 27, 161, 162, 163, 164, 165, 166, 167, 168, 169, 170, 171, 172, 173, 174, 175, 176] (by decide +kernel) (by decide +kernel)) (goodIn_sub (fun _ h => List.mem_append_right _ h) (by decide +kernel))
set_option maxRecDepth 20000 in
theorem gL_law_L_divide : GoodIn wsL_law (va_wsS RL 76 yL_divide wsL_divide) := goodIn_app (goodIn_of _ (by decide +kernel)) ggL_law_L_divide
set_option maxRecDepth 20000 in
theorem ggL_law_X2_dry : GoodIn wsL_law wsX2_dry := goodIn_r _ [157, 17, 32, 80, 81, 82, 2, 83, 27, 84, 85, 86, 87, 31, 92, 93, 94, 95, 33, 29, 24, 28, 44, 96, 16, 97, 98, 48, 49, 50, 51, 52, 53, 99, 100, 101, 102, 103, 104, 105, 106, 107, 108, 109, 110, 158, 159, 160, 161, 162, 163, 164, 165, 166, 167, 168, 169, 170, 171, 172, 173, 174, 175, 176, 177, 178, 179, 180, 181, 182] (by decide +kernel) (by decide +kernel)
set_option maxRecDepth 20000 in
theorem gL_law_X2_dry : GoodIn wsL_law (wsV RL 84 RX2 yX2_dry wsX2_dry) := goodIn_app (goodIn_of _ (by decide +kernel)) ggL_law_X2_dry
theorem dL_law_0 : decode cL_law 0 = .ok (.new 8, 3) := by decide +kernel
theorem dL_law_3 : decode cL_law 3 = .ok (.dup, 1) := by decide +kernel
theorem dL_law_4 : decode cL_law 4 = .ok (.aload_n 0, 1) := by decide +kernel
theorem dL_law_5 : decode cL_law 5 = .ok (.iconst 0, 1) := by decide +kernel
theorem dL_law_6 : decode cL_law 6 = .ok (.invokestatic 21, 3) := by decide +kernel
theorem dL_law_9 : decode cL_law 9 = .ok (.invokespecial 27, 3) := by decide +kernel
theorem dL_law_12 : decode cL_law 12 = .ok (.astore_n 1, 1) := by decide +kernel
theorem dL_law_13 : decode cL_law 13 = .ok (.new 30, 3) := by decide +kernel
theorem dL_law_16 : decode cL_law 16 = .ok (.dup, 1) := by decide +kernel
theorem dL_law_17 : decode cL_law 17 = .ok (.aload_n 0, 1) := by decide +kernel
theorem dL_law_18 : decode cL_law 18 = .ok (.iconst 0, 1) := by decide +kernel
theorem dL_law_19 : decode cL_law 19 = .ok (.invokestatic 21, 3) := by decide +kernel
theorem dL_law_22 : decode cL_law 22 = .ok (.invokespecial 32, 3) := by decide +kernel
theorem dL_law_25 : decode cL_law 25 = .ok (.astore_n 2, 1) := by decide +kernel
theorem dL_law_26 : decode cL_law 26 = .ok (.iconst 1, 1) := by decide +kernel
theorem dL_law_27 : decode cL_law 27 = .ok (.newarray .long, 2) := by decide +kernel
theorem dL_law_29 : decode cL_law 29 = .ok (.astore_n 3, 1) := by decide +kernel
theorem dL_law_30 : decode cL_law 30 = .ok (.iconst 1, 1) := by decide +kernel
theorem dL_law_31 : decode cL_law 31 = .ok (.istore 4, 2) := by decide +kernel
theorem dL_law_33 : decode cL_law 33 = .ok (.iload 4, 2) := by decide +kernel
theorem dL_law_35 : decode cL_law 35 = .ok (.aload_n 0, 1) := by decide +kernel
theorem dL_law_36 : decode cL_law 36 = .ok (.arraylength, 1) := by decide +kernel
theorem dL_law_37 : decode cL_law 37 = .ok (.bipush 6, 2) := by decide +kernel
theorem dL_law_39 : decode cL_law 39 = .ok (.isub, 1) := by decide +kernel
theorem dL_law_40 : decode cL_law 40 = .ok (.if_icmp .gt 661, 3) := by decide +kernel
theorem dL_law_43 : decode cL_law 43 = .ok (.aload_n 0, 1) := by decide +kernel
theorem dL_law_44 : decode cL_law 44 = .ok (.iload 4, 2) := by decide +kernel
theorem dL_law_46 : decode cL_law 46 = .ok (.iaload, 1) := by decide +kernel
theorem dL_law_47 : decode cL_law 47 = .ok (.bipush 15, 2) := by decide +kernel
theorem dL_law_49 : decode cL_law 49 = .ok (.iand, 1) := by decide +kernel
theorem dL_law_50 : decode cL_law 50 = .ok (.tableswitch 645 0 11 #[62, 115, 140, 209, 246, 284, 321, 347, 384, 409, 552, 589], 62) := by decide +kernel
theorem dL_law_112 : decode cL_law 112 = .ok (.aload_n 1, 1) := by decide +kernel
theorem dL_law_113 : decode cL_law 113 = .ok (.aload_n 0, 1) := by decide +kernel
theorem dL_law_114 : decode cL_law 114 = .ok (.iload 4, 2) := by decide +kernel
theorem dL_law_116 : decode cL_law 116 = .ok (.iconst 1, 1) := by decide +kernel
theorem dL_law_117 : decode cL_law 117 = .ok (.iadd, 1) := by decide +kernel
theorem dL_law_118 : decode cL_law 118 = .ok (.iaload, 1) := by decide +kernel
theorem dL_law_119 : decode cL_law 119 = .ok (.aload_n 0, 1) := by decide +kernel
theorem dL_law_120 : decode cL_law 120 = .ok (.iload 4, 2) := by decide +kernel
theorem dL_law_122 : decode cL_law 122 = .ok (.iconst 2, 1) := by decide +kernel
theorem dL_law_123 : decode cL_law 123 = .ok (.iadd, 1) := by decide +kernel
theorem dL_law_124 : decode cL_law 124 = .ok (.iaload, 1) := by decide +kernel
theorem dL_law_125 : decode cL_law 125 = .ok (.ifCond .eq 7, 3) := by decide +kernel
theorem dL_law_128 : decode cL_law 128 = .ok (.iconst 1, 1) := by decide +kernel
theorem dL_law_129 : decode cL_law 129 = .ok (.goto 4, 3) := by decide +kernel
theorem dL_law_132 : decode cL_law 132 = .ok (.iconst 0, 1) := by decide +kernel
theorem dL_law_133 : decode cL_law 133 = .ok (.invokevirtual 33, 3) := by decide +kernel
theorem dL_law_136 : decode cL_law 136 = .ok (.aload_n 2, 1) := by decide +kernel
theorem dL_law_137 : decode cL_law 137 = .ok (.aload_n 0, 1) := by decide +kernel
theorem dL_law_138 : decode cL_law 138 = .ok (.iload 4, 2) := by decide +kernel
theorem dL_law_140 : decode cL_law 140 = .ok (.iconst 1, 1) := by decide +kernel
theorem dL_law_141 : decode cL_law 141 = .ok (.iadd, 1) := by decide +kernel
theorem dL_law_142 : decode cL_law 142 = .ok (.iaload, 1) := by decide +kernel
theorem dL_law_143 : decode cL_law 143 = .ok (.aload_n 0, 1) := by decide +kernel
theorem dL_law_144 : decode cL_law 144 = .ok (.iload 4, 2) := by decide +kernel
theorem dL_law_146 : decode cL_law 146 = .ok (.iconst 2, 1) := by decide +kernel
theorem dL_law_147 : decode cL_law 147 = .ok (.iadd, 1) := by decide +kernel
theorem dL_law_148 : decode cL_law 148 = .ok (.iaload, 1) := by decide +kernel
theorem dL_law_149 : decode cL_law 149 = .ok (.ifCond .eq 7, 3) := by decide +kernel
theorem dL_law_152 : decode cL_law 152 = .ok (.iconst 1, 1) := by decide +kernel
theorem dL_law_153 : decode cL_law 153 = .ok (.goto 4, 3) := by decide +kernel
theorem dL_law_156 : decode cL_law 156 = .ok (.iconst 0, 1) := by decide +kernel
theorem dL_law_157 : decode cL_law 157 = .ok (.invokevirtual 37, 3) := by decide +kernel
theorem dL_law_160 : decode cL_law 160 = .ok (.if_icmp .eq 535, 3) := by decide +kernel
theorem dL_law_163 : decode cL_law 163 = .ok (.iconst 0, 1) := by decide +kernel
theorem dL_law_164 : decode cL_law 164 = .ok (.ireturn, 1) := by decide +kernel
theorem dL_law_165 : decode cL_law 165 = .ok (.aload_n 1, 1) := by decide +kernel
theorem dL_law_166 : decode cL_law 166 = .ok (.aload_n 0, 1) := by decide +kernel
theorem dL_law_167 : decode cL_law 167 = .ok (.iload 4, 2) := by decide +kernel
theorem dL_law_169 : decode cL_law 169 = .ok (.iconst 1, 1) := by decide +kernel
theorem dL_law_170 : decode cL_law 170 = .ok (.iadd, 1) := by decide +kernel
theorem dL_law_171 : decode cL_law 171 = .ok (.iaload, 1) := by decide +kernel
theorem dL_law_172 : decode cL_law 172 = .ok (.invokevirtual 38, 3) := by decide +kernel
theorem dL_law_175 : decode cL_law 175 = .ok (.aload_n 2, 1) := by decide +kernel
theorem dL_law_176 : decode cL_law 176 = .ok (.aload_n 0, 1) := by decide +kernel
theorem dL_law_177 : decode cL_law 177 = .ok (.iload 4, 2) := by decide +kernel
theorem dL_law_179 : decode cL_law 179 = .ok (.iconst 1, 1) := by decide +kernel
theorem dL_law_180 : decode cL_law 180 = .ok (.iadd, 1) := by decide +kernel
theorem dL_law_181 : decode cL_law 181 = .ok (.iaload, 1) := by decide +kernel
theorem dL_law_182 : decode cL_law 182 = .ok (.invokevirtual 41, 3) := by decide +kernel
theorem dL_law_185 : decode cL_law 185 = .ok (.if_icmp .eq 510, 3) := by decide +kernel
theorem dL_law_188 : decode cL_law 188 = .ok (.iconst 0, 1) := by decide +kernel
theorem dL_law_189 : decode cL_law 189 = .ok (.ireturn, 1) := by decide +kernel
theorem dL_law_190 : decode cL_law 190 = .ok (.aload_n 1, 1) := by decide +kernel
theorem dL_law_191 : decode cL_law 191 = .ok (.aload_n 0, 1) := by decide +kernel
theorem dL_law_192 : decode cL_law 192 = .ok (.iload 4, 2) := by decide +kernel
theorem dL_law_194 : decode cL_law 194 = .ok (.iconst 1, 1) := by decide +kernel
theorem dL_law_195 : decode cL_law 195 = .ok (.iadd, 1) := by decide +kernel
theorem dL_law_196 : decode cL_law 196 = .ok (.iaload, 1) := by decide +kernel
theorem dL_law_197 : decode cL_law 197 = .ok (.aload_n 0, 1) := by decide +kernel
theorem dL_law_198 : decode cL_law 198 = .ok (.iload 4, 2) := by decide +kernel
theorem dL_law_200 : decode cL_law 200 = .ok (.iconst 2, 1) := by decide +kernel
theorem dL_law_201 : decode cL_law 201 = .ok (.iadd, 1) := by decide +kernel
theorem dL_law_202 : decode cL_law 202 = .ok (.iaload, 1) := by decide +kernel
theorem dL_law_203 : decode cL_law 203 = .ok (.i2l, 1) := by decide +kernel
theorem dL_law_204 : decode cL_law 204 = .ok (.bipush 32, 2) := by decide +kernel
theorem dL_law_206 : decode cL_law 206 = .ok (.lshl, 1) := by decide +kernel
theorem dL_law_207 : decode cL_law 207 = .ok (.aload_n 0, 1) := by decide +kernel
theorem dL_law_208 : decode cL_law 208 = .ok (.iload 4, 2) := by decide +kernel
theorem dL_law_210 : decode cL_law 210 = .ok (.iconst 3, 1) := by decide +kernel
theorem dL_law_211 : decode cL_law 211 = .ok (.iadd, 1) := by decide +kernel
theorem dL_law_212 : decode cL_law 212 = .ok (.iaload, 1) := by decide +kernel
theorem dL_law_213 : decode cL_law 213 = .ok (.i2l, 1) := by decide +kernel
theorem dL_law_214 : decode cL_law 214 = .ok (.ldc2_w 42, 3) := by decide +kernel
theorem dL_law_217 : decode cL_law 217 = .ok (.land, 1) := by decide +kernel
theorem dL_law_218 : decode cL_law 218 = .ok (.lor, 1) := by decide +kernel
theorem dL_law_219 : decode cL_law 219 = .ok (.invokevirtual 44, 3) := by decide +kernel
theorem dL_law_222 : decode cL_law 222 = .ok (.aload_n 2, 1) := by decide +kernel
theorem dL_law_223 : decode cL_law 223 = .ok (.aload_n 0, 1) := by decide +kernel
theorem dL_law_224 : decode cL_law 224 = .ok (.iload 4, 2) := by decide +kernel
theorem dL_law_226 : decode cL_law 226 = .ok (.iconst 1, 1) := by decide +kernel
theorem dL_law_227 : decode cL_law 227 = .ok (.iadd, 1) := by decide +kernel
theorem dL_law_228 : decode cL_law 228 = .ok (.iaload, 1) := by decide +kernel
theorem dL_law_229 : decode cL_law 229 = .ok (.aload_n 0, 1) := by decide +kernel
theorem dL_law_230 : decode cL_law 230 = .ok (.iload 4, 2) := by decide +kernel
theorem dL_law_232 : decode cL_law 232 = .ok (.iconst 2, 1) := by decide +kernel
theorem dL_law_233 : decode cL_law 233 = .ok (.iadd, 1) := by decide +kernel
theorem dL_law_234 : decode cL_law 234 = .ok (.iaload, 1) := by decide +kernel
theorem dL_law_235 : decode cL_law 235 = .ok (.i2l, 1) := by decide +kernel
theorem dL_law_236 : decode cL_law 236 = .ok (.bipush 32, 2) := by decide +kernel
theorem dL_law_238 : decode cL_law 238 = .ok (.lshl, 1) := by decide +kernel
theorem dL_law_239 : decode cL_law 239 = .ok (.aload_n 0, 1) := by decide +kernel
theorem dL_law_240 : decode cL_law 240 = .ok (.iload 4, 2) := by decide +kernel
theorem dL_law_242 : decode cL_law 242 = .ok (.iconst 3, 1) := by decide +kernel
theorem dL_law_243 : decode cL_law 243 = .ok (.iadd, 1) := by decide +kernel
theorem dL_law_244 : decode cL_law 244 = .ok (.iaload, 1) := by decide +kernel
theorem dL_law_245 : decode cL_law 245 = .ok (.i2l, 1) := by decide +kernel
theorem dL_law_246 : decode cL_law 246 = .ok (.ldc2_w 42, 3) := by decide +kernel
theorem dL_law_249 : decode cL_law 249 = .ok (.land, 1) := by decide +kernel
theorem dL_law_250 : decode cL_law 250 = .ok (.lor, 1) := by decide +kernel
theorem dL_law_251 : decode cL_law 251 = .ok (.invokevirtual 48, 3) := by decide +kernel
theorem dL_law_254 : decode cL_law 254 = .ok (.if_icmp .eq 441, 3) := by decide +kernel
theorem dL_law_257 : decode cL_law 257 = .ok (.iconst 0, 1) := by decide +kernel
theorem dL_law_258 : decode cL_law 258 = .ok (.ireturn, 1) := by decide +kernel
theorem dL_law_259 : decode cL_law 259 = .ok (.aload_n 1, 1) := by decide +kernel
theorem dL_law_260 : decode cL_law 260 = .ok (.aload_n 0, 1) := by decide +kernel
theorem dL_law_261 : decode cL_law 261 = .ok (.iload 4, 2) := by decide +kernel
theorem dL_law_263 : decode cL_law 263 = .ok (.iconst 1, 1) := by decide +kernel
theorem dL_law_264 : decode cL_law 264 = .ok (.iadd, 1) := by decide +kernel
theorem dL_law_265 : decode cL_law 265 = .ok (.iaload, 1) := by decide +kernel
theorem dL_law_266 : decode cL_law 266 = .ok (.aload_n 0, 1) := by decide +kernel
theorem dL_law_267 : decode cL_law 267 = .ok (.iload 4, 2) := by decide +kernel
theorem dL_law_269 : decode cL_law 269 = .ok (.iconst 2, 1) := by decide +kernel
theorem dL_law_270 : decode cL_law 270 = .ok (.iadd, 1) := by decide +kernel
theorem dL_law_271 : decode cL_law 271 = .ok (.iaload, 1) := by decide +kernel
theorem dL_law_272 : decode cL_law 272 = .ok (.invokevirtual 49, 3) := by decide +kernel
theorem dL_law_275 : decode cL_law 275 = .ok (.aload_n 2, 1) := by decide +kernel
theorem dL_law_276 : decode cL_law 276 = .ok (.aload_n 0, 1) := by decide +kernel
theorem dL_law_277 : decode cL_law 277 = .ok (.iload 4, 2) := by decide +kernel
theorem dL_law_279 : decode cL_law 279 = .ok (.iconst 1, 1) := by decide +kernel
theorem dL_law_280 : decode cL_law 280 = .ok (.iadd, 1) := by decide +kernel
theorem dL_law_281 : decode cL_law 281 = .ok (.iaload, 1) := by decide +kernel
theorem dL_law_282 : decode cL_law 282 = .ok (.aload_n 0, 1) := by decide +kernel
theorem dL_law_283 : decode cL_law 283 = .ok (.iload 4, 2) := by decide +kernel
theorem dL_law_285 : decode cL_law 285 = .ok (.iconst 2, 1) := by decide +kernel
theorem dL_law_286 : decode cL_law 286 = .ok (.iadd, 1) := by decide +kernel
theorem dL_law_287 : decode cL_law 287 = .ok (.iaload, 1) := by decide +kernel
theorem dL_law_288 : decode cL_law 288 = .ok (.invokevirtual 53, 3) := by decide +kernel
theorem dL_law_291 : decode cL_law 291 = .ok (.if_icmp .eq 404, 3) := by decide +kernel
theorem dL_law_294 : decode cL_law 294 = .ok (.iconst 0, 1) := by decide +kernel
theorem dL_law_295 : decode cL_law 295 = .ok (.ireturn, 1) := by decide +kernel
theorem dL_law_296 : decode cL_law 296 = .ok (.aload_n 1, 1) := by decide +kernel
theorem dL_law_297 : decode cL_law 297 = .ok (.aload_n 0, 1) := by decide +kernel
theorem dL_law_298 : decode cL_law 298 = .ok (.iload 4, 2) := by decide +kernel
theorem dL_law_300 : decode cL_law 300 = .ok (.iconst 1, 1) := by decide +kernel
theorem dL_law_301 : decode cL_law 301 = .ok (.iadd, 1) := by decide +kernel
theorem dL_law_302 : decode cL_law 302 = .ok (.iaload, 1) := by decide +kernel
theorem dL_law_303 : decode cL_law 303 = .ok (.aload_n 0, 1) := by decide +kernel
theorem dL_law_304 : decode cL_law 304 = .ok (.iload 4, 2) := by decide +kernel
theorem dL_law_306 : decode cL_law 306 = .ok (.iconst 2, 1) := by decide +kernel
theorem dL_law_307 : decode cL_law 307 = .ok (.iadd, 1) := by decide +kernel
theorem dL_law_308 : decode cL_law 308 = .ok (.iaload, 1) := by decide +kernel
theorem dL_law_309 : decode cL_law 309 = .ok (.invokevirtual 54, 3) := by decide +kernel
theorem dL_law_312 : decode cL_law 312 = .ok (.aload_n 2, 1) := by decide +kernel
theorem dL_law_313 : decode cL_law 313 = .ok (.aload_n 0, 1) := by decide +kernel
theorem dL_law_314 : decode cL_law 314 = .ok (.iload 4, 2) := by decide +kernel
theorem dL_law_316 : decode cL_law 316 = .ok (.iconst 1, 1) := by decide +kernel
theorem dL_law_317 : decode cL_law 317 = .ok (.iadd, 1) := by decide +kernel
theorem dL_law_318 : decode cL_law 318 = .ok (.iaload, 1) := by decide +kernel
theorem dL_law_319 : decode cL_law 319 = .ok (.aload_n 0, 1) := by decide +kernel
theorem dL_law_320 : decode cL_law 320 = .ok (.iload 4, 2) := by decide +kernel
theorem dL_law_322 : decode cL_law 322 = .ok (.iconst 2, 1) := by decide +kernel
theorem dL_law_323 : decode cL_law 323 = .ok (.iadd, 1) := by decide +kernel
theorem dL_law_324 : decode cL_law 324 = .ok (.iaload, 1) := by decide +kernel
theorem dL_law_325 : decode cL_law 325 = .ok (.invokevirtual 58, 3) := by decide +kernel
theorem dL_law_328 : decode cL_law 328 = .ok (.lcmp, 1) := by decide +kernel
theorem dL_law_329 : decode cL_law 329 = .ok (.ifCond .eq 366, 3) := by decide +kernel
theorem dL_law_332 : decode cL_law 332 = .ok (.iconst 0, 1) := by decide +kernel
theorem dL_law_333 : decode cL_law 333 = .ok (.ireturn, 1) := by decide +kernel
theorem dL_law_334 : decode cL_law 334 = .ok (.aload_n 1, 1) := by decide +kernel
theorem dL_law_335 : decode cL_law 335 = .ok (.aload_n 0, 1) := by decide +kernel
theorem dL_law_336 : decode cL_law 336 = .ok (.iload 4, 2) := by decide +kernel
theorem dL_law_338 : decode cL_law 338 = .ok (.iconst 1, 1) := by decide +kernel
theorem dL_law_339 : decode cL_law 339 = .ok (.iadd, 1) := by decide +kernel
theorem dL_law_340 : decode cL_law 340 = .ok (.iaload, 1) := by decide +kernel
theorem dL_law_341 : decode cL_law 341 = .ok (.aload_n 0, 1) := by decide +kernel
theorem dL_law_342 : decode cL_law 342 = .ok (.iload 4, 2) := by decide +kernel
theorem dL_law_344 : decode cL_law 344 = .ok (.iconst 2, 1) := by decide +kernel
theorem dL_law_345 : decode cL_law 345 = .ok (.iadd, 1) := by decide +kernel
theorem dL_law_346 : decode cL_law 346 = .ok (.iaload, 1) := by decide +kernel
theorem dL_law_347 : decode cL_law 347 = .ok (.invokevirtual 59, 3) := by decide +kernel
theorem dL_law_350 : decode cL_law 350 = .ok (.aload_n 2, 1) := by decide +kernel
theorem dL_law_351 : decode cL_law 351 = .ok (.aload_n 0, 1) := by decide +kernel
theorem dL_law_352 : decode cL_law 352 = .ok (.iload 4, 2) := by decide +kernel
theorem dL_law_354 : decode cL_law 354 = .ok (.iconst 1, 1) := by decide +kernel
theorem dL_law_355 : decode cL_law 355 = .ok (.iadd, 1) := by decide +kernel
theorem dL_law_356 : decode cL_law 356 = .ok (.iaload, 1) := by decide +kernel
theorem dL_law_357 : decode cL_law 357 = .ok (.aload_n 0, 1) := by decide +kernel
theorem dL_law_358 : decode cL_law 358 = .ok (.iload 4, 2) := by decide +kernel
theorem dL_law_360 : decode cL_law 360 = .ok (.iconst 2, 1) := by decide +kernel
theorem dL_law_361 : decode cL_law 361 = .ok (.iadd, 1) := by decide +kernel
theorem dL_law_362 : decode cL_law 362 = .ok (.iaload, 1) := by decide +kernel
theorem dL_law_363 : decode cL_law 363 = .ok (.invokevirtual 62, 3) := by decide +kernel
theorem dL_law_366 : decode cL_law 366 = .ok (.if_icmp .eq 329, 3) := by decide +kernel
theorem dL_law_369 : decode cL_law 369 = .ok (.iconst 0, 1) := by decide +kernel
theorem dL_law_370 : decode cL_law 370 = .ok (.ireturn, 1) := by decide +kernel
theorem dL_law_371 : decode cL_law 371 = .ok (.aload_n 1, 1) := by decide +kernel
theorem dL_law_372 : decode cL_law 372 = .ok (.aload_n 0, 1) := by decide +kernel
theorem dL_law_373 : decode cL_law 373 = .ok (.iload 4, 2) := by decide +kernel
theorem dL_law_375 : decode cL_law 375 = .ok (.iconst 1, 1) := by decide +kernel
theorem dL_law_376 : decode cL_law 376 = .ok (.iadd, 1) := by decide +kernel
theorem dL_law_377 : decode cL_law 377 = .ok (.iaload, 1) := by decide +kernel
theorem dL_law_378 : decode cL_law 378 = .ok (.invokevirtual 63, 3) := by decide +kernel
theorem dL_law_381 : decode cL_law 381 = .ok (.aload_n 2, 1) := by decide +kernel
theorem dL_law_382 : decode cL_law 382 = .ok (.aload_n 0, 1) := by decide +kernel
theorem dL_law_383 : decode cL_law 383 = .ok (.iload 4, 2) := by decide +kernel
theorem dL_law_385 : decode cL_law 385 = .ok (.iconst 1, 1) := by decide +kernel
theorem dL_law_386 : decode cL_law 386 = .ok (.iadd, 1) := by decide +kernel
theorem dL_law_387 : decode cL_law 387 = .ok (.iaload, 1) := by decide +kernel
theorem dL_law_388 : decode cL_law 388 = .ok (.invokevirtual 66, 3) := by decide +kernel
theorem dL_law_391 : decode cL_law 391 = .ok (.lcmp, 1) := by decide +kernel
theorem dL_law_392 : decode cL_law 392 = .ok (.ifCond .eq 303, 3) := by decide +kernel
theorem dL_law_395 : decode cL_law 395 = .ok (.iconst 0, 1) := by decide +kernel
theorem dL_law_396 : decode cL_law 396 = .ok (.ireturn, 1) := by decide +kernel
theorem dL_law_397 : decode cL_law 397 = .ok (.aload_n 1, 1) := by decide +kernel
theorem dL_law_398 : decode cL_law 398 = .ok (.aload_n 0, 1) := by decide +kernel
theorem dL_law_399 : decode cL_law 399 = .ok (.iload 4, 2) := by decide +kernel
theorem dL_law_401 : decode cL_law 401 = .ok (.iconst 1, 1) := by decide +kernel
theorem dL_law_402 : decode cL_law 402 = .ok (.iadd, 1) := by decide +kernel
theorem dL_law_403 : decode cL_law 403 = .ok (.iaload, 1) := by decide +kernel
theorem dL_law_404 : decode cL_law 404 = .ok (.aload_n 0, 1) := by decide +kernel
theorem dL_law_405 : decode cL_law 405 = .ok (.iload 4, 2) := by decide +kernel
theorem dL_law_407 : decode cL_law 407 = .ok (.iconst 2, 1) := by decide +kernel
theorem dL_law_408 : decode cL_law 408 = .ok (.iadd, 1) := by decide +kernel
theorem dL_law_409 : decode cL_law 409 = .ok (.iaload, 1) := by decide +kernel
theorem dL_law_410 : decode cL_law 410 = .ok (.invokevirtual 67, 3) := by decide +kernel
theorem dL_law_413 : decode cL_law 413 = .ok (.aload_n 2, 1) := by decide +kernel
theorem dL_law_414 : decode cL_law 414 = .ok (.aload_n 0, 1) := by decide +kernel
theorem dL_law_415 : decode cL_law 415 = .ok (.iload 4, 2) := by decide +kernel
theorem dL_law_417 : decode cL_law 417 = .ok (.iconst 1, 1) := by decide +kernel
theorem dL_law_418 : decode cL_law 418 = .ok (.iadd, 1) := by decide +kernel
theorem dL_law_419 : decode cL_law 419 = .ok (.iaload, 1) := by decide +kernel
theorem dL_law_420 : decode cL_law 420 = .ok (.aload_n 0, 1) := by decide +kernel
theorem dL_law_421 : decode cL_law 421 = .ok (.iload 4, 2) := by decide +kernel
theorem dL_law_423 : decode cL_law 423 = .ok (.iconst 2, 1) := by decide +kernel
theorem dL_law_424 : decode cL_law 424 = .ok (.iadd, 1) := by decide +kernel
theorem dL_law_425 : decode cL_law 425 = .ok (.iaload, 1) := by decide +kernel
theorem dL_law_426 : decode cL_law 426 = .ok (.invokevirtual 71, 3) := by decide +kernel
theorem dL_law_429 : decode cL_law 429 = .ok (.if_icmp .eq 266, 3) := by decide +kernel
theorem dL_law_432 : decode cL_law 432 = .ok (.iconst 0, 1) := by decide +kernel
theorem dL_law_433 : decode cL_law 433 = .ok (.ireturn, 1) := by decide +kernel
theorem dL_law_434 : decode cL_law 434 = .ok (.aload_n 1, 1) := by decide +kernel
theorem dL_law_435 : decode cL_law 435 = .ok (.aload_n 0, 1) := by decide +kernel
theorem dL_law_436 : decode cL_law 436 = .ok (.iload 4, 2) := by decide +kernel
theorem dL_law_438 : decode cL_law 438 = .ok (.iconst 1, 1) := by decide +kernel
theorem dL_law_439 : decode cL_law 439 = .ok (.iadd, 1) := by decide +kernel
theorem dL_law_440 : decode cL_law 440 = .ok (.iaload, 1) := by decide +kernel
theorem dL_law_441 : decode cL_law 441 = .ok (.invokevirtual 72, 3) := by decide +kernel
theorem dL_law_444 : decode cL_law 444 = .ok (.aload_n 2, 1) := by decide +kernel
theorem dL_law_445 : decode cL_law 445 = .ok (.aload_n 0, 1) := by decide +kernel
theorem dL_law_446 : decode cL_law 446 = .ok (.iload 4, 2) := by decide +kernel
theorem dL_law_448 : decode cL_law 448 = .ok (.iconst 1, 1) := by decide +kernel
theorem dL_law_449 : decode cL_law 449 = .ok (.iadd, 1) := by decide +kernel
theorem dL_law_450 : decode cL_law 450 = .ok (.iaload, 1) := by decide +kernel
theorem dL_law_451 : decode cL_law 451 = .ok (.invokevirtual 75, 3) := by decide +kernel
theorem dL_law_454 : decode cL_law 454 = .ok (.if_icmp .eq 241, 3) := by decide +kernel
theorem dL_law_457 : decode cL_law 457 = .ok (.iconst 0, 1) := by decide +kernel
theorem dL_law_458 : decode cL_law 458 = .ok (.ireturn, 1) := by decide +kernel
theorem dL_law_459 : decode cL_law 459 = .ok (.aload_n 1, 1) := by decide +kernel
theorem dL_law_460 : decode cL_law 460 = .ok (.aload_n 0, 1) := by decide +kernel
theorem dL_law_461 : decode cL_law 461 = .ok (.iload 4, 2) := by decide +kernel
theorem dL_law_463 : decode cL_law 463 = .ok (.iconst 1, 1) := by decide +kernel
theorem dL_law_464 : decode cL_law 464 = .ok (.iadd, 1) := by decide +kernel
theorem dL_law_465 : decode cL_law 465 = .ok (.iaload, 1) := by decide +kernel
theorem dL_law_466 : decode cL_law 466 = .ok (.aload_n 0, 1) := by decide +kernel
theorem dL_law_467 : decode cL_law 467 = .ok (.iload 4, 2) := by decide +kernel
theorem dL_law_469 : decode cL_law 469 = .ok (.iconst 2, 1) := by decide +kernel
theorem dL_law_470 : decode cL_law 470 = .ok (.iadd, 1) := by decide +kernel
theorem dL_law_471 : decode cL_law 471 = .ok (.iaload, 1) := by decide +kernel
theorem dL_law_472 : decode cL_law 472 = .ok (.i2l, 1) := by decide +kernel
theorem dL_law_473 : decode cL_law 473 = .ok (.bipush 32, 2) := by decide +kernel
theorem dL_law_475 : decode cL_law 475 = .ok (.lshl, 1) := by decide +kernel
theorem dL_law_476 : decode cL_law 476 = .ok (.aload_n 0, 1) := by decide +kernel
theorem dL_law_477 : decode cL_law 477 = .ok (.iload 4, 2) := by decide +kernel
theorem dL_law_479 : decode cL_law 479 = .ok (.iconst 3, 1) := by decide +kernel
theorem dL_law_480 : decode cL_law 480 = .ok (.iadd, 1) := by decide +kernel
theorem dL_law_481 : decode cL_law 481 = .ok (.iaload, 1) := by decide +kernel
theorem dL_law_482 : decode cL_law 482 = .ok (.i2l, 1) := by decide +kernel
theorem dL_law_483 : decode cL_law 483 = .ok (.ldc2_w 42, 3) := by decide +kernel
theorem dL_law_486 : decode cL_law 486 = .ok (.land, 1) := by decide +kernel
theorem dL_law_487 : decode cL_law 487 = .ok (.lor, 1) := by decide +kernel
theorem dL_law_488 : decode cL_law 488 = .ok (.aload_n 0, 1) := by decide +kernel
theorem dL_law_489 : decode cL_law 489 = .ok (.iload 4, 2) := by decide +kernel
theorem dL_law_491 : decode cL_law 491 = .ok (.iconst 4, 1) := by decide +kernel
theorem dL_law_492 : decode cL_law 492 = .ok (.iadd, 1) := by decide +kernel
theorem dL_law_493 : decode cL_law 493 = .ok (.iaload, 1) := by decide +kernel
theorem dL_law_494 : decode cL_law 494 = .ok (.i2l, 1) := by decide +kernel
theorem dL_law_495 : decode cL_law 495 = .ok (.bipush 32, 2) := by decide +kernel
theorem dL_law_497 : decode cL_law 497 = .ok (.lshl, 1) := by decide +kernel
theorem dL_law_498 : decode cL_law 498 = .ok (.aload_n 0, 1) := by decide +kernel
theorem dL_law_499 : decode cL_law 499 = .ok (.iload 4, 2) := by decide +kernel
theorem dL_law_501 : decode cL_law 501 = .ok (.iconst 5, 1) := by decide +kernel
theorem dL_law_502 : decode cL_law 502 = .ok (.iadd, 1) := by decide +kernel
theorem dL_law_503 : decode cL_law 503 = .ok (.iaload, 1) := by decide +kernel
theorem dL_law_504 : decode cL_law 504 = .ok (.i2l, 1) := by decide +kernel
theorem dL_law_505 : decode cL_law 505 = .ok (.ldc2_w 42, 3) := by decide +kernel
theorem dL_law_508 : decode cL_law 508 = .ok (.land, 1) := by decide +kernel
theorem dL_law_509 : decode cL_law 509 = .ok (.lor, 1) := by decide +kernel
theorem dL_law_510 : decode cL_law 510 = .ok (.aload_n 3, 1) := by decide +kernel
theorem dL_law_511 : decode cL_law 511 = .ok (.invokestatic 76, 3) := by decide +kernel
theorem dL_law_514 : decode cL_law 514 = .ok (.istore 5, 2) := by decide +kernel
theorem dL_law_516 : decode cL_law 516 = .ok (.aload_n 2, 1) := by decide +kernel
theorem dL_law_517 : decode cL_law 517 = .ok (.aload_n 0, 1) := by decide +kernel
theorem dL_law_518 : decode cL_law 518 = .ok (.iload 4, 2) := by decide +kernel
theorem dL_law_520 : decode cL_law 520 = .ok (.iconst 1, 1) := by decide +kernel
theorem dL_law_521 : decode cL_law 521 = .ok (.iadd, 1) := by decide +kernel
theorem dL_law_522 : decode cL_law 522 = .ok (.iaload, 1) := by decide +kernel
theorem dL_law_523 : decode cL_law 523 = .ok (.aload_n 0, 1) := by decide +kernel
theorem dL_law_524 : decode cL_law 524 = .ok (.iload 4, 2) := by decide +kernel
theorem dL_law_526 : decode cL_law 526 = .ok (.iconst 2, 1) := by decide +kernel
theorem dL_law_527 : decode cL_law 527 = .ok (.iadd, 1) := by decide +kernel
theorem dL_law_528 : decode cL_law 528 = .ok (.iaload, 1) := by decide +kernel
theorem dL_law_529 : decode cL_law 529 = .ok (.i2l, 1) := by decide +kernel
theorem dL_law_530 : decode cL_law 530 = .ok (.bipush 32, 2) := by decide +kernel
theorem dL_law_532 : decode cL_law 532 = .ok (.lshl, 1) := by decide +kernel
theorem dL_law_533 : decode cL_law 533 = .ok (.aload_n 0, 1) := by decide +kernel
theorem dL_law_534 : decode cL_law 534 = .ok (.iload 4, 2) := by decide +kernel
theorem dL_law_536 : decode cL_law 536 = .ok (.iconst 3, 1) := by decide +kernel
theorem dL_law_537 : decode cL_law 537 = .ok (.iadd, 1) := by decide +kernel
theorem dL_law_538 : decode cL_law 538 = .ok (.iaload, 1) := by decide +kernel
theorem dL_law_539 : decode cL_law 539 = .ok (.i2l, 1) := by decide +kernel
theorem dL_law_540 : decode cL_law 540 = .ok (.ldc2_w 42, 3) := by decide +kernel
theorem dL_law_543 : decode cL_law 543 = .ok (.land, 1) := by decide +kernel
theorem dL_law_544 : decode cL_law 544 = .ok (.lor, 1) := by decide +kernel
theorem dL_law_545 : decode cL_law 545 = .ok (.aload_n 0, 1) := by decide +kernel
theorem dL_law_546 : decode cL_law 546 = .ok (.iload 4, 2) := by decide +kernel
theorem dL_law_548 : decode cL_law 548 = .ok (.iconst 4, 1) := by decide +kernel
theorem dL_law_549 : decode cL_law 549 = .ok (.iadd, 1) := by decide +kernel
theorem dL_law_550 : decode cL_law 550 = .ok (.iaload, 1) := by decide +kernel
theorem dL_law_551 : decode cL_law 551 = .ok (.i2l, 1) := by decide +kernel
theorem dL_law_552 : decode cL_law 552 = .ok (.bipush 32, 2) := by decide +kernel
theorem dL_law_554 : decode cL_law 554 = .ok (.lshl, 1) := by decide +kernel
theorem dL_law_555 : decode cL_law 555 = .ok (.aload_n 0, 1) := by decide +kernel
theorem dL_law_556 : decode cL_law 556 = .ok (.iload 4, 2) := by decide +kernel
theorem dL_law_558 : decode cL_law 558 = .ok (.iconst 5, 1) := by decide +kernel
theorem dL_law_559 : decode cL_law 559 = .ok (.iadd, 1) := by decide +kernel
theorem dL_law_560 : decode cL_law 560 = .ok (.iaload, 1) := by decide +kernel
theorem dL_law_561 : decode cL_law 561 = .ok (.i2l, 1) := by decide +kernel
theorem dL_law_562 : decode cL_law 562 = .ok (.ldc2_w 42, 3) := by decide +kernel
theorem dL_law_565 : decode cL_law 565 = .ok (.land, 1) := by decide +kernel
theorem dL_law_566 : decode cL_law 566 = .ok (.lor, 1) := by decide +kernel
theorem dL_law_567 : decode cL_law 567 = .ok (.invokevirtual 79, 3) := by decide +kernel
theorem dL_law_570 : decode cL_law 570 = .ok (.lstore 6, 2) := by decide +kernel
theorem dL_law_572 : decode cL_law 572 = .ok (.aload_n 2, 1) := by decide +kernel
theorem dL_law_573 : decode cL_law 573 = .ok (.invokevirtual 80, 3) := by decide +kernel
theorem dL_law_576 : decode cL_law 576 = .ok (.iload 5, 2) := by decide +kernel
theorem dL_law_578 : decode cL_law 578 = .ok (.if_icmp .eq 5, 3) := by decide +kernel
theorem dL_law_581 : decode cL_law 581 = .ok (.iconst 0, 1) := by decide +kernel
theorem dL_law_582 : decode cL_law 582 = .ok (.ireturn, 1) := by decide +kernel
theorem dL_law_583 : decode cL_law 583 = .ok (.iload 5, 2) := by decide +kernel
theorem dL_law_585 : decode cL_law 585 = .ok (.ifCond .ne 14, 3) := by decide +kernel
theorem dL_law_588 : decode cL_law 588 = .ok (.aload_n 3, 1) := by decide +kernel
theorem dL_law_589 : decode cL_law 589 = .ok (.iconst 0, 1) := by decide +kernel
theorem dL_law_590 : decode cL_law 590 = .ok (.laload, 1) := by decide +kernel
theorem dL_law_591 : decode cL_law 591 = .ok (.lload 6, 2) := by decide +kernel
theorem dL_law_593 : decode cL_law 593 = .ok (.lcmp, 1) := by decide +kernel
theorem dL_law_594 : decode cL_law 594 = .ok (.ifCond .eq 5, 3) := by decide +kernel
theorem dL_law_597 : decode cL_law 597 = .ok (.iconst 0, 1) := by decide +kernel
theorem dL_law_598 : decode cL_law 598 = .ok (.ireturn, 1) := by decide +kernel
theorem dL_law_599 : decode cL_law 599 = .ok (.goto 96, 3) := by decide +kernel
theorem dL_law_602 : decode cL_law 602 = .ok (.aload_n 1, 1) := by decide +kernel
theorem dL_law_603 : decode cL_law 603 = .ok (.aload_n 0, 1) := by decide +kernel
theorem dL_law_604 : decode cL_law 604 = .ok (.iload 4, 2) := by decide +kernel
theorem dL_law_606 : decode cL_law 606 = .ok (.iconst 1, 1) := by decide +kernel
theorem dL_law_607 : decode cL_law 607 = .ok (.iadd, 1) := by decide +kernel
theorem dL_law_608 : decode cL_law 608 = .ok (.iaload, 1) := by decide +kernel
theorem dL_law_609 : decode cL_law 609 = .ok (.aload_n 0, 1) := by decide +kernel
theorem dL_law_610 : decode cL_law 610 = .ok (.iload 4, 2) := by decide +kernel
theorem dL_law_612 : decode cL_law 612 = .ok (.iconst 2, 1) := by decide +kernel
theorem dL_law_613 : decode cL_law 613 = .ok (.iadd, 1) := by decide +kernel
theorem dL_law_614 : decode cL_law 614 = .ok (.iaload, 1) := by decide +kernel
theorem dL_law_615 : decode cL_law 615 = .ok (.invokevirtual 84, 3) := by decide +kernel
theorem dL_law_618 : decode cL_law 618 = .ok (.aload_n 2, 1) := by decide +kernel
theorem dL_law_619 : decode cL_law 619 = .ok (.aload_n 0, 1) := by decide +kernel
theorem dL_law_620 : decode cL_law 620 = .ok (.iload 4, 2) := by decide +kernel
theorem dL_law_622 : decode cL_law 622 = .ok (.iconst 1, 1) := by decide +kernel
theorem dL_law_623 : decode cL_law 623 = .ok (.iadd, 1) := by decide +kernel
theorem dL_law_624 : decode cL_law 624 = .ok (.iaload, 1) := by decide +kernel
theorem dL_law_625 : decode cL_law 625 = .ok (.aload_n 0, 1) := by decide +kernel
theorem dL_law_626 : decode cL_law 626 = .ok (.iload 4, 2) := by decide +kernel
theorem dL_law_628 : decode cL_law 628 = .ok (.iconst 2, 1) := by decide +kernel
theorem dL_law_629 : decode cL_law 629 = .ok (.iadd, 1) := by decide +kernel
theorem dL_law_630 : decode cL_law 630 = .ok (.iaload, 1) := by decide +kernel
theorem dL_law_631 : decode cL_law 631 = .ok (.invokevirtual 87, 3) := by decide +kernel
theorem dL_law_634 : decode cL_law 634 = .ok (.if_icmp .eq 61, 3) := by decide +kernel
theorem dL_law_637 : decode cL_law 637 = .ok (.iconst 0, 1) := by decide +kernel
theorem dL_law_638 : decode cL_law 638 = .ok (.ireturn, 1) := by decide +kernel
theorem dL_law_639 : decode cL_law 639 = .ok (.aload_n 1, 1) := by decide +kernel
theorem dL_law_640 : decode cL_law 640 = .ok (.aload_n 0, 1) := by decide +kernel
theorem dL_law_641 : decode cL_law 641 = .ok (.iload 4, 2) := by decide +kernel
theorem dL_law_643 : decode cL_law 643 = .ok (.iconst 1, 1) := by decide +kernel
theorem dL_law_644 : decode cL_law 644 = .ok (.iadd, 1) := by decide +kernel
theorem dL_law_645 : decode cL_law 645 = .ok (.iaload, 1) := by decide +kernel
theorem dL_law_646 : decode cL_law 646 = .ok (.aload_n 3, 1) := by decide +kernel
theorem dL_law_647 : decode cL_law 647 = .ok (.invokestatic 88, 3) := by decide +kernel
theorem dL_law_650 : decode cL_law 650 = .ok (.istore 5, 2) := by decide +kernel
theorem dL_law_652 : decode cL_law 652 = .ok (.aload_n 2, 1) := by decide +kernel
theorem dL_law_653 : decode cL_law 653 = .ok (.aload_n 0, 1) := by decide +kernel
theorem dL_law_654 : decode cL_law 654 = .ok (.iload 4, 2) := by decide +kernel
theorem dL_law_656 : decode cL_law 656 = .ok (.iconst 1, 1) := by decide +kernel
theorem dL_law_657 : decode cL_law 657 = .ok (.iadd, 1) := by decide +kernel
theorem dL_law_658 : decode cL_law 658 = .ok (.iaload, 1) := by decide +kernel
theorem dL_law_659 : decode cL_law 659 = .ok (.invokevirtual 91, 3) := by decide +kernel
theorem dL_law_662 : decode cL_law 662 = .ok (.istore 6, 2) := by decide +kernel
theorem dL_law_664 : decode cL_law 664 = .ok (.aload_n 2, 1) := by decide +kernel
theorem dL_law_665 : decode cL_law 665 = .ok (.invokevirtual 80, 3) := by decide +kernel
theorem dL_law_668 : decode cL_law 668 = .ok (.iload 5, 2) := by decide +kernel
theorem dL_law_670 : decode cL_law 670 = .ok (.if_icmp .eq 5, 3) := by decide +kernel
theorem dL_law_673 : decode cL_law 673 = .ok (.iconst 0, 1) := by decide +kernel
theorem dL_law_674 : decode cL_law 674 = .ok (.ireturn, 1) := by decide +kernel
theorem dL_law_675 : decode cL_law 675 = .ok (.iload 5, 2) := by decide +kernel
theorem dL_law_677 : decode cL_law 677 = .ok (.ifCond .ne 15, 3) := by decide +kernel
theorem dL_law_680 : decode cL_law 680 = .ok (.aload_n 3, 1) := by decide +kernel
theorem dL_law_681 : decode cL_law 681 = .ok (.iconst 0, 1) := by decide +kernel
theorem dL_law_682 : decode cL_law 682 = .ok (.laload, 1) := by decide +kernel
theorem dL_law_683 : decode cL_law 683 = .ok (.iload 6, 2) := by decide +kernel
theorem dL_law_685 : decode cL_law 685 = .ok (.i2l, 1) := by decide +kernel
theorem dL_law_686 : decode cL_law 686 = .ok (.lcmp, 1) := by decide +kernel
theorem dL_law_687 : decode cL_law 687 = .ok (.ifCond .eq 5, 3) := by decide +kernel
theorem dL_law_690 : decode cL_law 690 = .ok (.iconst 0, 1) := by decide +kernel
theorem dL_law_691 : decode cL_law 691 = .ok (.ireturn, 1) := by decide +kernel
theorem dL_law_692 : decode cL_law 692 = .ok (.goto 3, 3) := by decide +kernel
theorem dL_law_695 : decode cL_law 695 = .ok (.iinc 4 6, 3) := by decide +kernel
theorem dL_law_698 : decode cL_law 698 = .ok (.goto (-665), 3) := by decide +kernel
theorem dL_law_701 : decode cL_law 701 = .ok (.iconst 1, 1) := by decide +kernel
theorem dL_law_702 : decode cL_law 702 = .ok (.ireturn, 1) := by decide +kernel
end
section
def RXM : String := "BatchClassesModel"
def TXM : u_T := fun k => match k with
  | 0 => ("BatchClassesModel", "thrown", "I", false)
  | 1 => ("BatchClassesModel", "most", "I", true)
  | 2 => ("BatchClassesModel", "types", "I", false)
  | 3 => ("BatchClassesModel", "does", "[I", true)
  | 4 => ("BatchClassesModel", "startFails", "[Z", true)
  | 5 => ("BatchClassesModel", "classes", "I", false)
  | 6 => ("BatchClassesModel", "typeOf", "[I", true)
  | 7 => ("BatchClassesModel", "cells", "[J", true)
  | 8 => ("BatchClassesModel", "records", "I", false)
  | 9 => ("BatchClassesModel", "fields", "[J", true)
  | 10 => ("BatchClassesModel", "locked", "[Z", true)
  | 11 => ("BatchClassesModel", "done", "[Z", true)
  | 12 => ("BatchClassesModel", "failures", "[I", true)
  | 13 => ("BatchClassesModel", "failureCount", "I", false)
  | 14 => ("BatchClassesModel", "latest", "I", false)
  | 15 => ("BatchClassesModel", "latestDone", "Z", false)
  | 16 => ("BatchClassesModel", "now", "[J", true)
  | 17 => ("BatchClassesModel", "cell", "J", false)
  | _ => ("BatchClassesModel", "locks", "Z", false)
def tyXM : Nat → FieldType := fun k => match k with
  | 0 => .int
  | 1 => .int
  | 2 => .int
  | 3 => .array .int
  | 4 => .array .boolean
  | 5 => .int
  | 6 => .array .int
  | 7 => .array .long
  | 8 => .int
  | 9 => .array .long
  | 10 => .array .boolean
  | 11 => .array .boolean
  | 12 => .array .int
  | 13 => .int
  | 14 => .int
  | 15 => .boolean
  | 16 => .array .long
  | 17 => .long
  | _ => .boolean
abbrev wsXM0 : List Cond := u_ws RXM TXM 19
theorem nmXM : ∀ a, a < 19 → ∀ b, b < 19 → a ≠ b → (TXM a).2.1 ≠ (TXM b).2.1 := by decide +kernel
theorem tyXM_ok : ∀ k, k < 19 → parseFieldDescriptor (TXM k).2.2.1 = some (tyXM k) := by decide +kernel
abbrev cXM_init : ByteArray := prog_5_method_1_code
def yXM_init : MethodName := ⟨RXM, "<init>", "(I)V"⟩
abbrev cXM_thrown : ByteArray := prog_5_method_2_code
def yXM_thrown : MethodName := ⟨RXM, "thrown", "()I"⟩
abbrev cXM_isClass : ByteArray := prog_5_method_3_code
def yXM_isClass : MethodName := ⟨RXM, "isClass", "(I)Z"⟩
abbrev cXM_isRecord : ByteArray := prog_5_method_4_code
def yXM_isRecord : MethodName := ⟨RXM, "isRecord", "(I)Z"⟩
abbrev cXM_type : ByteArray := prog_5_method_5_code
def yXM_type : MethodName := ⟨RXM, "type", "(IZ)I"⟩
abbrev cXM_make : ByteArray := prog_5_method_6_code
def yXM_make : MethodName := ⟨RXM, "make", "(I)I"⟩
abbrev cXM_record : ByteArray := prog_5_method_7_code
def yXM_record : MethodName := ⟨RXM, "record", "(IJ)I"⟩
abbrev cXM_reckon : ByteArray := prog_5_method_8_code
def yXM_reckon : MethodName := ⟨RXM, "reckon", "(I)V"⟩
abbrev cXM_goes : ByteArray := prog_5_method_9_code
def yXM_goes : MethodName := ⟨RXM, "goes", "(II)I"⟩
abbrev cXM_run : ByteArray := prog_5_method_10_code
def yXM_run : MethodName := ⟨RXM, "run", "(II)I"⟩
abbrev cXM_resume : ByteArray := prog_5_method_11_code
def yXM_resume : MethodName := ⟨RXM, "resume", "(I)I"⟩
abbrev cXM_dry : ByteArray := prog_5_method_12_code
def yXM_dry : MethodName := ⟨RXM, "dry", "(II)I"⟩
abbrev cXM_value : ByteArray := prog_5_method_13_code
def yXM_value : MethodName := ⟨RXM, "value", "(II)J"⟩
abbrev cXM_failed : ByteArray := prog_5_method_14_code
def yXM_failed : MethodName := ⟨RXM, "failed", "(II)I"⟩
abbrev cXM_cell : ByteArray := prog_5_method_15_code
def yXM_cell : MethodName := ⟨RXM, "cell", "(I)J"⟩
abbrev cXM_same : ByteArray := prog_5_method_16_code
def yXM_same : MethodName := ⟨RXM, "same", "(II)Z"⟩
abbrev cXM_divide : ByteArray := prog_5_method_17_code
def yXM_divide : MethodName := ⟨RXM, "divide", "(IJJ)J"⟩
abbrev cXM_handle : ByteArray := prog_5_method_18_code
def yXM_handle : MethodName := ⟨RXM, "handle", "(I)I"⟩
def wsXM_init : List Cond := .code yXM_init cXM_init 2 none :: ([.methodLink RXM 1 objectInit, .instanceMethod objectInit, .code objectInit ⟨#[0xb1]⟩ 1 none, .arrayClass .int, .fieldLink RXM 7 "BatchClassesModel" "does" "[I", .arrayClass .boolean, .fieldLink RXM 13 "BatchClassesModel" "startFails" "[Z", .fieldLink RXM 17 "BatchClassesModel" "typeOf" "[I", .arrayClass .long, .fieldLink RXM 20 "BatchClassesModel" "cells" "[J", .fieldLink RXM 24 "BatchClassesModel" "fields" "[J", .fieldLink RXM 27 "BatchClassesModel" "locked" "[Z", .fieldLink RXM 30 "BatchClassesModel" "done" "[Z", .fieldLink RXM 33 "BatchClassesModel" "failures" "[I", .fieldLink RXM 36 "BatchClassesModel" "now" "[J", .fieldLink RXM 39 "BatchClassesModel" "most" "I"] ++ wsXM0)
def wsXM_thrown : List Cond := .code yXM_thrown cXM_thrown 1 (some .int) :: ([.fieldLink RXM 43 "BatchClassesModel" "thrown" "I"] ++ wsXM0)
def wsXM_isClass : List Cond := .code yXM_isClass cXM_isClass 2 (some .boolean) :: ([.fieldLink RXM 46 "BatchClassesModel" "classes" "I"] ++ wsXM0)
def wsXM_isRecord : List Cond := .code yXM_isRecord cXM_isRecord 2 (some .boolean) :: ([.fieldLink RXM 49 "BatchClassesModel" "records" "I"] ++ wsXM0)
def wsXM_type : List Cond := .code yXM_type cXM_type 3 (some .int) :: ([.fieldLink RXM 43 "BatchClassesModel" "thrown" "I", .fieldLink RXM 52 "BatchClassesModel" "types" "I", .fieldLink RXM 7 "BatchClassesModel" "does" "[I", .fieldLink RXM 13 "BatchClassesModel" "startFails" "[Z"] ++ wsXM0)
def wsXM_make : List Cond := .code yXM_make cXM_make 2 (some .int) :: ([.fieldLink RXM 43 "BatchClassesModel" "thrown" "I", .fieldLink RXM 52 "BatchClassesModel" "types" "I", .fieldLink RXM 13 "BatchClassesModel" "startFails" "[Z", .fieldLink RXM 46 "BatchClassesModel" "classes" "I", .fieldLink RXM 17 "BatchClassesModel" "typeOf" "[I"] ++ wsXM0)
def wsXM_record : List Cond := .code yXM_record cXM_record 4 (some .int) :: ([.fieldLink RXM 43 "BatchClassesModel" "thrown" "I", .fieldLink RXM 49 "BatchClassesModel" "records" "I", .fieldLink RXM 24 "BatchClassesModel" "fields" "[J"] ++ wsXM0)
def wsXM_reckon : List Cond := .code yXM_reckon cXM_reckon 4 none :: ([.fieldLink RXM 36 "BatchClassesModel" "now" "[J", .fieldLink RXM 55 "BatchClassesModel" "cell" "J"] ++ wsXM0)
def wsXM_goes : List Cond := .code yXM_goes cXM_goes 7 (some .int) :: ([.methodLink RXM 59 yXM_isClass, .instanceMethod yXM_isClass, .selects RXM yXM_isClass yXM_isClass, .initialized RXM, .code yXM_isClass cXM_isClass 2 (some .boolean), .fieldLink RXM 46 "BatchClassesModel" "classes" "I", .methodLink RXM 63 yXM_isRecord, .instanceMethod yXM_isRecord, .selects RXM yXM_isRecord yXM_isRecord, .code yXM_isRecord cXM_isRecord 2 (some .boolean), .fieldLink RXM 49 "BatchClassesModel" "records" "I", .fieldLink RXM 27 "BatchClassesModel" "locked" "[Z", .fieldLink RXM 36 "BatchClassesModel" "now" "[J", .fieldLink RXM 24 "BatchClassesModel" "fields" "[J", .fieldLink RXM 20 "BatchClassesModel" "cells" "[J", .fieldLink RXM 55 "BatchClassesModel" "cell" "J", .fieldLink RXM 66 "BatchClassesModel" "locks" "Z", .fieldLink RXM 7 "BatchClassesModel" "does" "[I", .fieldLink RXM 17 "BatchClassesModel" "typeOf" "[I", .fieldLink RXM 39 "BatchClassesModel" "most" "I", .methodLink RXM 70 yXM_reckon, .instanceMethod yXM_reckon, .selects RXM yXM_reckon yXM_reckon, .code yXM_reckon cXM_reckon 4 none] ++ wsXM0)
def wsXM_run : List Cond := .code yXM_run cXM_run 5 (some .int) :: ([.fieldLink RXM 43 "BatchClassesModel" "thrown" "I", .methodLink RXM 74 yXM_goes, .instanceMethod yXM_goes, .selects RXM yXM_goes yXM_goes, .initialized RXM, .code yXM_goes cXM_goes 7 (some .int), .methodLink RXM 59 yXM_isClass, .instanceMethod yXM_isClass, .selects RXM yXM_isClass yXM_isClass, .code yXM_isClass cXM_isClass 2 (some .boolean), .fieldLink RXM 46 "BatchClassesModel" "classes" "I", .methodLink RXM 63 yXM_isRecord, .instanceMethod yXM_isRecord, .selects RXM yXM_isRecord yXM_isRecord, .code yXM_isRecord cXM_isRecord 2 (some .boolean), .fieldLink RXM 49 "BatchClassesModel" "records" "I", .fieldLink RXM 27 "BatchClassesModel" "locked" "[Z", .fieldLink RXM 36 "BatchClassesModel" "now" "[J", .fieldLink RXM 24 "BatchClassesModel" "fields" "[J", .fieldLink RXM 20 "BatchClassesModel" "cells" "[J", .fieldLink RXM 55 "BatchClassesModel" "cell" "J", .fieldLink RXM 66 "BatchClassesModel" "locks" "Z", .fieldLink RXM 7 "BatchClassesModel" "does" "[I", .fieldLink RXM 17 "BatchClassesModel" "typeOf" "[I", .fieldLink RXM 39 "BatchClassesModel" "most" "I", .methodLink RXM 70 yXM_reckon, .instanceMethod yXM_reckon, .selects RXM yXM_reckon yXM_reckon, .code yXM_reckon cXM_reckon 4 none, .fieldLink RXM 78 "BatchClassesModel" "latest" "I", .fieldLink RXM 81 "BatchClassesModel" "latestDone" "Z", .fieldLink RXM 30 "BatchClassesModel" "done" "[Z", .fieldLink RXM 84 "BatchClassesModel" "failureCount" "I", .fieldLink RXM 33 "BatchClassesModel" "failures" "[I"] ++ wsXM0)
def wsXM_resume : List Cond := .code yXM_resume cXM_resume 3 (some .int) :: ([.fieldLink RXM 43 "BatchClassesModel" "thrown" "I", .methodLink RXM 59 yXM_isClass, .instanceMethod yXM_isClass, .selects RXM yXM_isClass yXM_isClass, .initialized RXM, .code yXM_isClass cXM_isClass 2 (some .boolean), .fieldLink RXM 46 "BatchClassesModel" "classes" "I", .fieldLink RXM 49 "BatchClassesModel" "records" "I", .fieldLink RXM 30 "BatchClassesModel" "done" "[Z", .methodLink RXM 87 yXM_run, .instanceMethod yXM_run, .selects RXM yXM_run yXM_run, .code yXM_run cXM_run 5 (some .int), .methodLink RXM 74 yXM_goes, .instanceMethod yXM_goes, .selects RXM yXM_goes yXM_goes, .code yXM_goes cXM_goes 7 (some .int), .methodLink RXM 63 yXM_isRecord, .instanceMethod yXM_isRecord, .selects RXM yXM_isRecord yXM_isRecord, .code yXM_isRecord cXM_isRecord 2 (some .boolean), .fieldLink RXM 27 "BatchClassesModel" "locked" "[Z", .fieldLink RXM 36 "BatchClassesModel" "now" "[J", .fieldLink RXM 24 "BatchClassesModel" "fields" "[J", .fieldLink RXM 20 "BatchClassesModel" "cells" "[J", .fieldLink RXM 55 "BatchClassesModel" "cell" "J", .fieldLink RXM 66 "BatchClassesModel" "locks" "Z", .fieldLink RXM 7 "BatchClassesModel" "does" "[I", .fieldLink RXM 17 "BatchClassesModel" "typeOf" "[I", .fieldLink RXM 39 "BatchClassesModel" "most" "I", .methodLink RXM 70 yXM_reckon, .instanceMethod yXM_reckon, .selects RXM yXM_reckon yXM_reckon, .code yXM_reckon cXM_reckon 4 none, .fieldLink RXM 78 "BatchClassesModel" "latest" "I", .fieldLink RXM 81 "BatchClassesModel" "latestDone" "Z", .fieldLink RXM 84 "BatchClassesModel" "failureCount" "I", .fieldLink RXM 33 "BatchClassesModel" "failures" "[I"] ++ wsXM0)
def wsXM_dry : List Cond := .code yXM_dry cXM_dry 6 (some .int) :: ([.fieldLink RXM 43 "BatchClassesModel" "thrown" "I", .methodLink RXM 74 yXM_goes, .instanceMethod yXM_goes, .selects RXM yXM_goes yXM_goes, .initialized RXM, .code yXM_goes cXM_goes 7 (some .int), .methodLink RXM 59 yXM_isClass, .instanceMethod yXM_isClass, .selects RXM yXM_isClass yXM_isClass, .code yXM_isClass cXM_isClass 2 (some .boolean), .fieldLink RXM 46 "BatchClassesModel" "classes" "I", .methodLink RXM 63 yXM_isRecord, .instanceMethod yXM_isRecord, .selects RXM yXM_isRecord yXM_isRecord, .code yXM_isRecord cXM_isRecord 2 (some .boolean), .fieldLink RXM 49 "BatchClassesModel" "records" "I", .fieldLink RXM 27 "BatchClassesModel" "locked" "[Z", .fieldLink RXM 36 "BatchClassesModel" "now" "[J", .fieldLink RXM 24 "BatchClassesModel" "fields" "[J", .fieldLink RXM 20 "BatchClassesModel" "cells" "[J", .fieldLink RXM 55 "BatchClassesModel" "cell" "J", .fieldLink RXM 66 "BatchClassesModel" "locks" "Z", .fieldLink RXM 7 "BatchClassesModel" "does" "[I", .fieldLink RXM 17 "BatchClassesModel" "typeOf" "[I", .fieldLink RXM 39 "BatchClassesModel" "most" "I", .methodLink RXM 70 yXM_reckon, .instanceMethod yXM_reckon, .selects RXM yXM_reckon yXM_reckon, .code yXM_reckon cXM_reckon 4 none] ++ wsXM0)
def wsXM_value : List Cond := .code yXM_value cXM_value 3 (some .long) :: ([.fieldLink RXM 43 "BatchClassesModel" "thrown" "I", .methodLink RXM 63 yXM_isRecord, .instanceMethod yXM_isRecord, .selects RXM yXM_isRecord yXM_isRecord, .initialized RXM, .code yXM_isRecord cXM_isRecord 2 (some .boolean), .fieldLink RXM 49 "BatchClassesModel" "records" "I", .fieldLink RXM 24 "BatchClassesModel" "fields" "[J"] ++ wsXM0)
def wsXM_failed : List Cond := .code yXM_failed cXM_failed 3 (some .int) :: ([.fieldLink RXM 43 "BatchClassesModel" "thrown" "I", .fieldLink RXM 84 "BatchClassesModel" "failureCount" "I", .fieldLink RXM 33 "BatchClassesModel" "failures" "[I"] ++ wsXM0)
def wsXM_cell : List Cond := .code yXM_cell cXM_cell 2 (some .long) :: ([.fieldLink RXM 43 "BatchClassesModel" "thrown" "I", .methodLink RXM 59 yXM_isClass, .instanceMethod yXM_isClass, .selects RXM yXM_isClass yXM_isClass, .initialized RXM, .code yXM_isClass cXM_isClass 2 (some .boolean), .fieldLink RXM 46 "BatchClassesModel" "classes" "I", .fieldLink RXM 20 "BatchClassesModel" "cells" "[J"] ++ wsXM0)
def wsXM_same : List Cond := .code yXM_same cXM_same 3 (some .boolean) :: ([.fieldLink RXM 43 "BatchClassesModel" "thrown" "I", .methodLink RXM 59 yXM_isClass, .instanceMethod yXM_isClass, .selects RXM yXM_isClass yXM_isClass, .initialized RXM, .code yXM_isClass cXM_isClass 2 (some .boolean), .fieldLink RXM 46 "BatchClassesModel" "classes" "I", .fieldLink RXM 17 "BatchClassesModel" "typeOf" "[I"] ++ wsXM0)
def wsXM_divide : List Cond := .code yXM_divide cXM_divide 6 (some .long) :: ([.fieldLink RXM 43 "BatchClassesModel" "thrown" "I", .methodLink RXM 59 yXM_isClass, .instanceMethod yXM_isClass, .selects RXM yXM_isClass yXM_isClass, .initialized RXM, .code yXM_isClass cXM_isClass 2 (some .boolean), .fieldLink RXM 46 "BatchClassesModel" "classes" "I"] ++ wsXM0)
def wsXM_handle : List Cond := .code yXM_handle cXM_handle 4 (some .int) :: ([.fieldLink RXM 43 "BatchClassesModel" "thrown" "I", .fieldLink RXM 78 "BatchClassesModel" "latest" "I", .fieldLink RXM 81 "BatchClassesModel" "latestDone" "Z", .fieldLink RXM 46 "BatchClassesModel" "classes" "I", .fieldLink RXM 30 "BatchClassesModel" "done" "[Z"] ++ wsXM0)
theorem dXM_init_0 : decode cXM_init 0 = .ok (.aload_n 0, 1) := by decide +kernel
theorem dXM_init_1 : decode cXM_init 1 = .ok (.invokespecial 1, 3) := by decide +kernel
theorem dXM_init_4 : decode cXM_init 4 = .ok (.aload_n 0, 1) := by decide +kernel
theorem dXM_init_5 : decode cXM_init 5 = .ok (.bipush 21, 2) := by decide +kernel
theorem dXM_init_7 : decode cXM_init 7 = .ok (.newarray .int, 2) := by decide +kernel
theorem dXM_init_9 : decode cXM_init 9 = .ok (.putfield 7, 3) := by decide +kernel
theorem dXM_init_12 : decode cXM_init 12 = .ok (.aload_n 0, 1) := by decide +kernel
theorem dXM_init_13 : decode cXM_init 13 = .ok (.bipush 21, 2) := by decide +kernel
theorem dXM_init_15 : decode cXM_init 15 = .ok (.newarray .boolean, 2) := by decide +kernel
theorem dXM_init_17 : decode cXM_init 17 = .ok (.putfield 13, 3) := by decide +kernel
theorem dXM_init_20 : decode cXM_init 20 = .ok (.aload_n 0, 1) := by decide +kernel
theorem dXM_init_21 : decode cXM_init 21 = .ok (.bipush 61, 2) := by decide +kernel
theorem dXM_init_23 : decode cXM_init 23 = .ok (.newarray .int, 2) := by decide +kernel
theorem dXM_init_25 : decode cXM_init 25 = .ok (.putfield 17, 3) := by decide +kernel
theorem dXM_init_28 : decode cXM_init 28 = .ok (.aload_n 0, 1) := by decide +kernel
theorem dXM_init_29 : decode cXM_init 29 = .ok (.bipush 61, 2) := by decide +kernel
theorem dXM_init_31 : decode cXM_init 31 = .ok (.newarray .long, 2) := by decide +kernel
theorem dXM_init_33 : decode cXM_init 33 = .ok (.putfield 20, 3) := by decide +kernel
theorem dXM_init_36 : decode cXM_init 36 = .ok (.aload_n 0, 1) := by decide +kernel
theorem dXM_init_37 : decode cXM_init 37 = .ok (.sipush 244, 3) := by decide +kernel
theorem dXM_init_40 : decode cXM_init 40 = .ok (.newarray .long, 2) := by decide +kernel
theorem dXM_init_42 : decode cXM_init 42 = .ok (.putfield 24, 3) := by decide +kernel
theorem dXM_init_45 : decode cXM_init 45 = .ok (.aload_n 0, 1) := by decide +kernel
theorem dXM_init_46 : decode cXM_init 46 = .ok (.bipush 61, 2) := by decide +kernel
theorem dXM_init_48 : decode cXM_init 48 = .ok (.newarray .boolean, 2) := by decide +kernel
theorem dXM_init_50 : decode cXM_init 50 = .ok (.putfield 27, 3) := by decide +kernel
theorem dXM_init_53 : decode cXM_init 53 = .ok (.aload_n 0, 1) := by decide +kernel
theorem dXM_init_54 : decode cXM_init 54 = .ok (.sipush 3721, 3) := by decide +kernel
theorem dXM_init_57 : decode cXM_init 57 = .ok (.newarray .boolean, 2) := by decide +kernel
theorem dXM_init_59 : decode cXM_init 59 = .ok (.putfield 30, 3) := by decide +kernel
theorem dXM_init_62 : decode cXM_init 62 = .ok (.aload_n 0, 1) := by decide +kernel
theorem dXM_init_63 : decode cXM_init 63 = .ok (.sipush 300, 3) := by decide +kernel
theorem dXM_init_66 : decode cXM_init 66 = .ok (.newarray .int, 2) := by decide +kernel
theorem dXM_init_68 : decode cXM_init 68 = .ok (.putfield 33, 3) := by decide +kernel
theorem dXM_init_71 : decode cXM_init 71 = .ok (.aload_n 0, 1) := by decide +kernel
theorem dXM_init_72 : decode cXM_init 72 = .ok (.iconst 4, 1) := by decide +kernel
theorem dXM_init_73 : decode cXM_init 73 = .ok (.newarray .long, 2) := by decide +kernel
theorem dXM_init_75 : decode cXM_init 75 = .ok (.putfield 36, 3) := by decide +kernel
theorem dXM_init_78 : decode cXM_init 78 = .ok (.aload_n 0, 1) := by decide +kernel
theorem dXM_init_79 : decode cXM_init 79 = .ok (.iload_n 1, 1) := by decide +kernel
theorem dXM_init_80 : decode cXM_init 80 = .ok (.iconst 1, 1) := by decide +kernel
theorem dXM_init_81 : decode cXM_init 81 = .ok (.if_icmp .ge 7, 3) := by decide +kernel
theorem dXM_init_84 : decode cXM_init 84 = .ok (.iconst 1, 1) := by decide +kernel
theorem dXM_init_85 : decode cXM_init 85 = .ok (.goto 17, 3) := by decide +kernel
theorem dXM_init_88 : decode cXM_init 88 = .ok (.iload_n 1, 1) := by decide +kernel
theorem dXM_init_89 : decode cXM_init 89 = .ok (.sipush 200, 3) := by decide +kernel
theorem dXM_init_92 : decode cXM_init 92 = .ok (.if_icmp .le 9, 3) := by decide +kernel
theorem dXM_init_95 : decode cXM_init 95 = .ok (.sipush 200, 3) := by decide +kernel
theorem dXM_init_98 : decode cXM_init 98 = .ok (.goto 4, 3) := by decide +kernel
theorem dXM_init_101 : decode cXM_init 101 = .ok (.iload_n 1, 1) := by decide +kernel
theorem dXM_init_102 : decode cXM_init 102 = .ok (.putfield 39, 3) := by decide +kernel
theorem dXM_init_105 : decode cXM_init 105 = .ok (.return_, 1) := by decide +kernel
theorem dXM_thrown_0 : decode cXM_thrown 0 = .ok (.aload_n 0, 1) := by decide +kernel
theorem dXM_thrown_1 : decode cXM_thrown 1 = .ok (.getfield 43, 3) := by decide +kernel
theorem dXM_thrown_4 : decode cXM_thrown 4 = .ok (.ireturn, 1) := by decide +kernel
theorem dXM_isClass_0 : decode cXM_isClass 0 = .ok (.iload_n 1, 1) := by decide +kernel
theorem dXM_isClass_1 : decode cXM_isClass 1 = .ok (.ifCond .le 15, 3) := by decide +kernel
theorem dXM_isClass_4 : decode cXM_isClass 4 = .ok (.iload_n 1, 1) := by decide +kernel
theorem dXM_isClass_5 : decode cXM_isClass 5 = .ok (.aload_n 0, 1) := by decide +kernel
theorem dXM_isClass_6 : decode cXM_isClass 6 = .ok (.getfield 46, 3) := by decide +kernel
theorem dXM_isClass_9 : decode cXM_isClass 9 = .ok (.if_icmp .gt 7, 3) := by decide +kernel
theorem dXM_isClass_12 : decode cXM_isClass 12 = .ok (.iconst 1, 1) := by decide +kernel
theorem dXM_isClass_13 : decode cXM_isClass 13 = .ok (.goto 4, 3) := by decide +kernel
theorem dXM_isClass_16 : decode cXM_isClass 16 = .ok (.iconst 0, 1) := by decide +kernel
theorem dXM_isClass_17 : decode cXM_isClass 17 = .ok (.ireturn, 1) := by decide +kernel
theorem dXM_isRecord_0 : decode cXM_isRecord 0 = .ok (.iload_n 1, 1) := by decide +kernel
theorem dXM_isRecord_1 : decode cXM_isRecord 1 = .ok (.ifCond .le 15, 3) := by decide +kernel
theorem dXM_isRecord_4 : decode cXM_isRecord 4 = .ok (.iload_n 1, 1) := by decide +kernel
theorem dXM_isRecord_5 : decode cXM_isRecord 5 = .ok (.aload_n 0, 1) := by decide +kernel
theorem dXM_isRecord_6 : decode cXM_isRecord 6 = .ok (.getfield 49, 3) := by decide +kernel
theorem dXM_isRecord_9 : decode cXM_isRecord 9 = .ok (.if_icmp .gt 7, 3) := by decide +kernel
theorem dXM_isRecord_12 : decode cXM_isRecord 12 = .ok (.iconst 1, 1) := by decide +kernel
theorem dXM_isRecord_13 : decode cXM_isRecord 13 = .ok (.goto 4, 3) := by decide +kernel
theorem dXM_isRecord_16 : decode cXM_isRecord 16 = .ok (.iconst 0, 1) := by decide +kernel
theorem dXM_isRecord_17 : decode cXM_isRecord 17 = .ok (.ireturn, 1) := by decide +kernel
theorem dXM_type_0 : decode cXM_type 0 = .ok (.aload_n 0, 1) := by decide +kernel
theorem dXM_type_1 : decode cXM_type 1 = .ok (.iconst 0, 1) := by decide +kernel
theorem dXM_type_2 : decode cXM_type 2 = .ok (.putfield 43, 3) := by decide +kernel
theorem dXM_type_5 : decode cXM_type 5 = .ok (.aload_n 0, 1) := by decide +kernel
theorem dXM_type_6 : decode cXM_type 6 = .ok (.getfield 52, 3) := by decide +kernel
theorem dXM_type_9 : decode cXM_type 9 = .ok (.bipush 20, 2) := by decide +kernel
theorem dXM_type_11 : decode cXM_type 11 = .ok (.if_icmp .ne 5, 3) := by decide +kernel
theorem dXM_type_14 : decode cXM_type 14 = .ok (.iconst 0, 1) := by decide +kernel
theorem dXM_type_15 : decode cXM_type 15 = .ok (.ireturn, 1) := by decide +kernel
theorem dXM_type_16 : decode cXM_type 16 = .ok (.aload_n 0, 1) := by decide +kernel
theorem dXM_type_17 : decode cXM_type 17 = .ok (.dup, 1) := by decide +kernel
theorem dXM_type_18 : decode cXM_type 18 = .ok (.getfield 52, 3) := by decide +kernel
theorem dXM_type_21 : decode cXM_type 21 = .ok (.iconst 1, 1) := by decide +kernel
theorem dXM_type_22 : decode cXM_type 22 = .ok (.iadd, 1) := by decide +kernel
theorem dXM_type_23 : decode cXM_type 23 = .ok (.putfield 52, 3) := by decide +kernel
theorem dXM_type_26 : decode cXM_type 26 = .ok (.aload_n 0, 1) := by decide +kernel
theorem dXM_type_27 : decode cXM_type 27 = .ok (.getfield 7, 3) := by decide +kernel
theorem dXM_type_30 : decode cXM_type 30 = .ok (.aload_n 0, 1) := by decide +kernel
theorem dXM_type_31 : decode cXM_type 31 = .ok (.getfield 52, 3) := by decide +kernel
theorem dXM_type_34 : decode cXM_type 34 = .ok (.iload_n 1, 1) := by decide +kernel
theorem dXM_type_35 : decode cXM_type 35 = .ok (.iastore, 1) := by decide +kernel
theorem dXM_type_36 : decode cXM_type 36 = .ok (.aload_n 0, 1) := by decide +kernel
theorem dXM_type_37 : decode cXM_type 37 = .ok (.getfield 13, 3) := by decide +kernel
theorem dXM_type_40 : decode cXM_type 40 = .ok (.aload_n 0, 1) := by decide +kernel
theorem dXM_type_41 : decode cXM_type 41 = .ok (.getfield 52, 3) := by decide +kernel
theorem dXM_type_44 : decode cXM_type 44 = .ok (.iload_n 2, 1) := by decide +kernel
theorem dXM_type_45 : decode cXM_type 45 = .ok (.bastore, 1) := by decide +kernel
theorem dXM_type_46 : decode cXM_type 46 = .ok (.aload_n 0, 1) := by decide +kernel
theorem dXM_type_47 : decode cXM_type 47 = .ok (.getfield 52, 3) := by decide +kernel
theorem dXM_type_50 : decode cXM_type 50 = .ok (.ireturn, 1) := by decide +kernel
theorem dXM_make_0 : decode cXM_make 0 = .ok (.aload_n 0, 1) := by decide +kernel
theorem dXM_make_1 : decode cXM_make 1 = .ok (.iconst 0, 1) := by decide +kernel
theorem dXM_make_2 : decode cXM_make 2 = .ok (.putfield 43, 3) := by decide +kernel
theorem dXM_make_5 : decode cXM_make 5 = .ok (.iload_n 1, 1) := by decide +kernel
theorem dXM_make_6 : decode cXM_make 6 = .ok (.iconst 1, 1) := by decide +kernel
theorem dXM_make_7 : decode cXM_make 7 = .ok (.if_icmp .lt 29, 3) := by decide +kernel
theorem dXM_make_10 : decode cXM_make 10 = .ok (.iload_n 1, 1) := by decide +kernel
theorem dXM_make_11 : decode cXM_make 11 = .ok (.aload_n 0, 1) := by decide +kernel
theorem dXM_make_12 : decode cXM_make 12 = .ok (.getfield 52, 3) := by decide +kernel
theorem dXM_make_15 : decode cXM_make 15 = .ok (.if_icmp .gt 21, 3) := by decide +kernel
theorem dXM_make_18 : decode cXM_make 18 = .ok (.aload_n 0, 1) := by decide +kernel
theorem dXM_make_19 : decode cXM_make 19 = .ok (.getfield 13, 3) := by decide +kernel
theorem dXM_make_22 : decode cXM_make 22 = .ok (.iload_n 1, 1) := by decide +kernel
theorem dXM_make_23 : decode cXM_make 23 = .ok (.baload, 1) := by decide +kernel
theorem dXM_make_24 : decode cXM_make 24 = .ok (.ifCond .ne 12, 3) := by decide +kernel
theorem dXM_make_27 : decode cXM_make 27 = .ok (.aload_n 0, 1) := by decide +kernel
theorem dXM_make_28 : decode cXM_make 28 = .ok (.getfield 46, 3) := by decide +kernel
theorem dXM_make_31 : decode cXM_make 31 = .ok (.bipush 60, 2) := by decide +kernel
theorem dXM_make_33 : decode cXM_make 33 = .ok (.if_icmp .ne 5, 3) := by decide +kernel
theorem dXM_make_36 : decode cXM_make 36 = .ok (.iconst (-1), 1) := by decide +kernel
theorem dXM_make_37 : decode cXM_make 37 = .ok (.ireturn, 1) := by decide +kernel
theorem dXM_make_38 : decode cXM_make 38 = .ok (.aload_n 0, 1) := by decide +kernel
theorem dXM_make_39 : decode cXM_make 39 = .ok (.dup, 1) := by decide +kernel
theorem dXM_make_40 : decode cXM_make 40 = .ok (.getfield 46, 3) := by decide +kernel
theorem dXM_make_43 : decode cXM_make 43 = .ok (.iconst 1, 1) := by decide +kernel
theorem dXM_make_44 : decode cXM_make 44 = .ok (.iadd, 1) := by decide +kernel
theorem dXM_make_45 : decode cXM_make 45 = .ok (.putfield 46, 3) := by decide +kernel
theorem dXM_make_48 : decode cXM_make 48 = .ok (.aload_n 0, 1) := by decide +kernel
theorem dXM_make_49 : decode cXM_make 49 = .ok (.getfield 17, 3) := by decide +kernel
theorem dXM_make_52 : decode cXM_make 52 = .ok (.aload_n 0, 1) := by decide +kernel
theorem dXM_make_53 : decode cXM_make 53 = .ok (.getfield 46, 3) := by decide +kernel
theorem dXM_make_56 : decode cXM_make 56 = .ok (.iload_n 1, 1) := by decide +kernel
theorem dXM_make_57 : decode cXM_make 57 = .ok (.iastore, 1) := by decide +kernel
theorem dXM_make_58 : decode cXM_make 58 = .ok (.aload_n 0, 1) := by decide +kernel
theorem dXM_make_59 : decode cXM_make 59 = .ok (.getfield 46, 3) := by decide +kernel
theorem dXM_make_62 : decode cXM_make 62 = .ok (.ireturn, 1) := by decide +kernel
theorem dXM_record_0 : decode cXM_record 0 = .ok (.aload_n 0, 1) := by decide +kernel
theorem dXM_record_1 : decode cXM_record 1 = .ok (.iconst 0, 1) := by decide +kernel
theorem dXM_record_2 : decode cXM_record 2 = .ok (.putfield 43, 3) := by decide +kernel
theorem dXM_record_5 : decode cXM_record 5 = .ok (.iload_n 1, 1) := by decide +kernel
theorem dXM_record_6 : decode cXM_record 6 = .ok (.ifCond .lt 17, 3) := by decide +kernel
theorem dXM_record_9 : decode cXM_record 9 = .ok (.iload_n 1, 1) := by decide +kernel
theorem dXM_record_10 : decode cXM_record 10 = .ok (.iconst 3, 1) := by decide +kernel
theorem dXM_record_11 : decode cXM_record 11 = .ok (.if_icmp .gt 12, 3) := by decide +kernel
theorem dXM_record_14 : decode cXM_record 14 = .ok (.aload_n 0, 1) := by decide +kernel
theorem dXM_record_15 : decode cXM_record 15 = .ok (.getfield 49, 3) := by decide +kernel
theorem dXM_record_18 : decode cXM_record 18 = .ok (.bipush 60, 2) := by decide +kernel
theorem dXM_record_20 : decode cXM_record 20 = .ok (.if_icmp .ne 5, 3) := by decide +kernel
theorem dXM_record_23 : decode cXM_record 23 = .ok (.iconst 0, 1) := by decide +kernel
theorem dXM_record_24 : decode cXM_record 24 = .ok (.ireturn, 1) := by decide +kernel
theorem dXM_record_25 : decode cXM_record 25 = .ok (.aload_n 0, 1) := by decide +kernel
theorem dXM_record_26 : decode cXM_record 26 = .ok (.dup, 1) := by decide +kernel
theorem dXM_record_27 : decode cXM_record 27 = .ok (.getfield 49, 3) := by decide +kernel
theorem dXM_record_30 : decode cXM_record 30 = .ok (.iconst 1, 1) := by decide +kernel
theorem dXM_record_31 : decode cXM_record 31 = .ok (.iadd, 1) := by decide +kernel
theorem dXM_record_32 : decode cXM_record 32 = .ok (.putfield 49, 3) := by decide +kernel
theorem dXM_record_35 : decode cXM_record 35 = .ok (.aload_n 0, 1) := by decide +kernel
theorem dXM_record_36 : decode cXM_record 36 = .ok (.getfield 24, 3) := by decide +kernel
theorem dXM_record_39 : decode cXM_record 39 = .ok (.iconst 4, 1) := by decide +kernel
theorem dXM_record_40 : decode cXM_record 40 = .ok (.aload_n 0, 1) := by decide +kernel
theorem dXM_record_41 : decode cXM_record 41 = .ok (.getfield 49, 3) := by decide +kernel
theorem dXM_record_44 : decode cXM_record 44 = .ok (.imul, 1) := by decide +kernel
theorem dXM_record_45 : decode cXM_record 45 = .ok (.iload_n 1, 1) := by decide +kernel
theorem dXM_record_46 : decode cXM_record 46 = .ok (.iadd, 1) := by decide +kernel
theorem dXM_record_47 : decode cXM_record 47 = .ok (.lload_n 2, 1) := by decide +kernel
theorem dXM_record_48 : decode cXM_record 48 = .ok (.lastore, 1) := by decide +kernel
theorem dXM_record_49 : decode cXM_record 49 = .ok (.aload_n 0, 1) := by decide +kernel
theorem dXM_record_50 : decode cXM_record 50 = .ok (.getfield 49, 3) := by decide +kernel
theorem dXM_record_53 : decode cXM_record 53 = .ok (.ireturn, 1) := by decide +kernel
theorem dXM_reckon_0 : decode cXM_reckon 0 = .ok (.aload_n 0, 1) := by decide +kernel
theorem dXM_reckon_1 : decode cXM_reckon 1 = .ok (.getfield 36, 3) := by decide +kernel
theorem dXM_reckon_4 : decode cXM_reckon 4 = .ok (.iconst 0, 1) := by decide +kernel
theorem dXM_reckon_5 : decode cXM_reckon 5 = .ok (.laload, 1) := by decide +kernel
theorem dXM_reckon_6 : decode cXM_reckon 6 = .ok (.lstore_n 2, 1) := by decide +kernel
theorem dXM_reckon_7 : decode cXM_reckon 7 = .ok (.iload_n 1, 1) := by decide +kernel
theorem dXM_reckon_8 : decode cXM_reckon 8 = .ok (.tableswitch 195 1 12 #[64, 76, 88, 98, 115, 195, 195, 137, 150, 195, 163, 178], 64) := by decide +kernel
theorem dXM_reckon_72 : decode cXM_reckon 72 = .ok (.aload_n 0, 1) := by decide +kernel
theorem dXM_reckon_73 : decode cXM_reckon 73 = .ok (.getfield 36, 3) := by decide +kernel
theorem dXM_reckon_76 : decode cXM_reckon 76 = .ok (.iconst 0, 1) := by decide +kernel
theorem dXM_reckon_77 : decode cXM_reckon 77 = .ok (.lload_n 2, 1) := by decide +kernel
theorem dXM_reckon_78 : decode cXM_reckon 78 = .ok (.lconst 1, 1) := by decide +kernel
theorem dXM_reckon_79 : decode cXM_reckon 79 = .ok (.ladd, 1) := by decide +kernel
theorem dXM_reckon_80 : decode cXM_reckon 80 = .ok (.lastore, 1) := by decide +kernel
theorem dXM_reckon_81 : decode cXM_reckon 81 = .ok (.goto 122, 3) := by decide +kernel
theorem dXM_reckon_84 : decode cXM_reckon 84 = .ok (.aload_n 0, 1) := by decide +kernel
theorem dXM_reckon_85 : decode cXM_reckon 85 = .ok (.getfield 36, 3) := by decide +kernel
theorem dXM_reckon_88 : decode cXM_reckon 88 = .ok (.iconst 0, 1) := by decide +kernel
theorem dXM_reckon_89 : decode cXM_reckon 89 = .ok (.lload_n 2, 1) := by decide +kernel
theorem dXM_reckon_90 : decode cXM_reckon 90 = .ok (.lload_n 2, 1) := by decide +kernel
theorem dXM_reckon_91 : decode cXM_reckon 91 = .ok (.ladd, 1) := by decide +kernel
theorem dXM_reckon_92 : decode cXM_reckon 92 = .ok (.lastore, 1) := by decide +kernel
theorem dXM_reckon_93 : decode cXM_reckon 93 = .ok (.goto 110, 3) := by decide +kernel
theorem dXM_reckon_96 : decode cXM_reckon 96 = .ok (.aload_n 0, 1) := by decide +kernel
theorem dXM_reckon_97 : decode cXM_reckon 97 = .ok (.getfield 36, 3) := by decide +kernel
theorem dXM_reckon_100 : decode cXM_reckon 100 = .ok (.iconst 1, 1) := by decide +kernel
theorem dXM_reckon_101 : decode cXM_reckon 101 = .ok (.lload_n 2, 1) := by decide +kernel
theorem dXM_reckon_102 : decode cXM_reckon 102 = .ok (.lastore, 1) := by decide +kernel
theorem dXM_reckon_103 : decode cXM_reckon 103 = .ok (.goto 100, 3) := by decide +kernel
theorem dXM_reckon_106 : decode cXM_reckon 106 = .ok (.aload_n 0, 1) := by decide +kernel
theorem dXM_reckon_107 : decode cXM_reckon 107 = .ok (.getfield 36, 3) := by decide +kernel
theorem dXM_reckon_110 : decode cXM_reckon 110 = .ok (.iconst 0, 1) := by decide +kernel
theorem dXM_reckon_111 : decode cXM_reckon 111 = .ok (.lload_n 2, 1) := by decide +kernel
theorem dXM_reckon_112 : decode cXM_reckon 112 = .ok (.aload_n 0, 1) := by decide +kernel
theorem dXM_reckon_113 : decode cXM_reckon 113 = .ok (.getfield 36, 3) := by decide +kernel
theorem dXM_reckon_116 : decode cXM_reckon 116 = .ok (.iconst 1, 1) := by decide +kernel
theorem dXM_reckon_117 : decode cXM_reckon 117 = .ok (.laload, 1) := by decide +kernel
theorem dXM_reckon_118 : decode cXM_reckon 118 = .ok (.ldiv, 1) := by decide +kernel
theorem dXM_reckon_119 : decode cXM_reckon 119 = .ok (.lastore, 1) := by decide +kernel
theorem dXM_reckon_120 : decode cXM_reckon 120 = .ok (.goto 83, 3) := by decide +kernel
theorem dXM_reckon_123 : decode cXM_reckon 123 = .ok (.aload_n 0, 1) := by decide +kernel
theorem dXM_reckon_124 : decode cXM_reckon 124 = .ok (.getfield 36, 3) := by decide +kernel
theorem dXM_reckon_127 : decode cXM_reckon 127 = .ok (.iconst 0, 1) := by decide +kernel
theorem dXM_reckon_128 : decode cXM_reckon 128 = .ok (.aload_n 0, 1) := by decide +kernel
theorem dXM_reckon_129 : decode cXM_reckon 129 = .ok (.getfield 36, 3) := by decide +kernel
theorem dXM_reckon_132 : decode cXM_reckon 132 = .ok (.iconst 1, 1) := by decide +kernel
theorem dXM_reckon_133 : decode cXM_reckon 133 = .ok (.laload, 1) := by decide +kernel
theorem dXM_reckon_134 : decode cXM_reckon 134 = .ok (.lastore, 1) := by decide +kernel
theorem dXM_reckon_135 : decode cXM_reckon 135 = .ok (.aload_n 0, 1) := by decide +kernel
theorem dXM_reckon_136 : decode cXM_reckon 136 = .ok (.getfield 36, 3) := by decide +kernel
theorem dXM_reckon_139 : decode cXM_reckon 139 = .ok (.iconst 1, 1) := by decide +kernel
theorem dXM_reckon_140 : decode cXM_reckon 140 = .ok (.lload_n 2, 1) := by decide +kernel
theorem dXM_reckon_141 : decode cXM_reckon 141 = .ok (.lastore, 1) := by decide +kernel
theorem dXM_reckon_142 : decode cXM_reckon 142 = .ok (.goto 61, 3) := by decide +kernel
theorem dXM_reckon_145 : decode cXM_reckon 145 = .ok (.aload_n 0, 1) := by decide +kernel
theorem dXM_reckon_146 : decode cXM_reckon 146 = .ok (.dup, 1) := by decide +kernel
theorem dXM_reckon_147 : decode cXM_reckon 147 = .ok (.getfield 55, 3) := by decide +kernel
theorem dXM_reckon_150 : decode cXM_reckon 150 = .ok (.lload_n 2, 1) := by decide +kernel
theorem dXM_reckon_151 : decode cXM_reckon 151 = .ok (.ladd, 1) := by decide +kernel
theorem dXM_reckon_152 : decode cXM_reckon 152 = .ok (.putfield 55, 3) := by decide +kernel
theorem dXM_reckon_155 : decode cXM_reckon 155 = .ok (.goto 48, 3) := by decide +kernel
theorem dXM_reckon_158 : decode cXM_reckon 158 = .ok (.aload_n 0, 1) := by decide +kernel
theorem dXM_reckon_159 : decode cXM_reckon 159 = .ok (.getfield 36, 3) := by decide +kernel
theorem dXM_reckon_162 : decode cXM_reckon 162 = .ok (.iconst 0, 1) := by decide +kernel
theorem dXM_reckon_163 : decode cXM_reckon 163 = .ok (.aload_n 0, 1) := by decide +kernel
theorem dXM_reckon_164 : decode cXM_reckon 164 = .ok (.getfield 55, 3) := by decide +kernel
theorem dXM_reckon_167 : decode cXM_reckon 167 = .ok (.lastore, 1) := by decide +kernel
theorem dXM_reckon_168 : decode cXM_reckon 168 = .ok (.goto 35, 3) := by decide +kernel
theorem dXM_reckon_171 : decode cXM_reckon 171 = .ok (.aload_n 0, 1) := by decide +kernel
theorem dXM_reckon_172 : decode cXM_reckon 172 = .ok (.getfield 36, 3) := by decide +kernel
theorem dXM_reckon_175 : decode cXM_reckon 175 = .ok (.iconst 2, 1) := by decide +kernel
theorem dXM_reckon_176 : decode cXM_reckon 176 = .ok (.aload_n 0, 1) := by decide +kernel
theorem dXM_reckon_177 : decode cXM_reckon 177 = .ok (.getfield 36, 3) := by decide +kernel
theorem dXM_reckon_180 : decode cXM_reckon 180 = .ok (.iconst 3, 1) := by decide +kernel
theorem dXM_reckon_181 : decode cXM_reckon 181 = .ok (.laload, 1) := by decide +kernel
theorem dXM_reckon_182 : decode cXM_reckon 182 = .ok (.lastore, 1) := by decide +kernel
theorem dXM_reckon_183 : decode cXM_reckon 183 = .ok (.goto 20, 3) := by decide +kernel
theorem dXM_reckon_186 : decode cXM_reckon 186 = .ok (.aload_n 0, 1) := by decide +kernel
theorem dXM_reckon_187 : decode cXM_reckon 187 = .ok (.getfield 36, 3) := by decide +kernel
theorem dXM_reckon_190 : decode cXM_reckon 190 = .ok (.iconst 3, 1) := by decide +kernel
theorem dXM_reckon_191 : decode cXM_reckon 191 = .ok (.lload_n 2, 1) := by decide +kernel
theorem dXM_reckon_192 : decode cXM_reckon 192 = .ok (.aload_n 0, 1) := by decide +kernel
theorem dXM_reckon_193 : decode cXM_reckon 193 = .ok (.getfield 36, 3) := by decide +kernel
theorem dXM_reckon_196 : decode cXM_reckon 196 = .ok (.iconst 2, 1) := by decide +kernel
theorem dXM_reckon_197 : decode cXM_reckon 197 = .ok (.laload, 1) := by decide +kernel
theorem dXM_reckon_198 : decode cXM_reckon 198 = .ok (.lsub, 1) := by decide +kernel
theorem dXM_reckon_199 : decode cXM_reckon 199 = .ok (.lastore, 1) := by decide +kernel
theorem dXM_reckon_200 : decode cXM_reckon 200 = .ok (.goto 3, 3) := by decide +kernel
theorem dXM_reckon_203 : decode cXM_reckon 203 = .ok (.return_, 1) := by decide +kernel
theorem dXM_goes_0 : decode cXM_goes 0 = .ok (.aload_n 0, 1) := by decide +kernel
theorem dXM_goes_1 : decode cXM_goes 1 = .ok (.iload_n 1, 1) := by decide +kernel
theorem dXM_goes_2 : decode cXM_goes 2 = .ok (.invokevirtual 59, 3) := by decide +kernel
theorem dXM_goes_5 : decode cXM_goes 5 = .ok (.ifCond .eq 11, 3) := by decide +kernel
theorem dXM_goes_8 : decode cXM_goes 8 = .ok (.aload_n 0, 1) := by decide +kernel
theorem dXM_goes_9 : decode cXM_goes 9 = .ok (.iload_n 2, 1) := by decide +kernel
theorem dXM_goes_10 : decode cXM_goes 10 = .ok (.invokevirtual 63, 3) := by decide +kernel
theorem dXM_goes_13 : decode cXM_goes 13 = .ok (.ifCond .ne 5, 3) := by decide +kernel
theorem dXM_goes_16 : decode cXM_goes 16 = .ok (.iconst (-1), 1) := by decide +kernel
theorem dXM_goes_17 : decode cXM_goes 17 = .ok (.ireturn, 1) := by decide +kernel
theorem dXM_goes_18 : decode cXM_goes 18 = .ok (.aload_n 0, 1) := by decide +kernel
theorem dXM_goes_19 : decode cXM_goes 19 = .ok (.getfield 27, 3) := by decide +kernel
theorem dXM_goes_22 : decode cXM_goes 22 = .ok (.iload_n 2, 1) := by decide +kernel
theorem dXM_goes_23 : decode cXM_goes 23 = .ok (.baload, 1) := by decide +kernel
theorem dXM_goes_24 : decode cXM_goes 24 = .ok (.ifCond .eq 6, 3) := by decide +kernel
theorem dXM_goes_27 : decode cXM_goes 27 = .ok (.bipush (-5), 2) := by decide +kernel
theorem dXM_goes_29 : decode cXM_goes 29 = .ok (.ireturn, 1) := by decide +kernel
theorem dXM_goes_30 : decode cXM_goes 30 = .ok (.iconst 0, 1) := by decide +kernel
theorem dXM_goes_31 : decode cXM_goes 31 = .ok (.istore_n 3, 1) := by decide +kernel
theorem dXM_goes_32 : decode cXM_goes 32 = .ok (.iload_n 3, 1) := by decide +kernel
theorem dXM_goes_33 : decode cXM_goes 33 = .ok (.iconst 4, 1) := by decide +kernel
theorem dXM_goes_34 : decode cXM_goes 34 = .ok (.if_icmp .ge 25, 3) := by decide +kernel
theorem dXM_goes_37 : decode cXM_goes 37 = .ok (.aload_n 0, 1) := by decide +kernel
theorem dXM_goes_38 : decode cXM_goes 38 = .ok (.getfield 36, 3) := by decide +kernel
theorem dXM_goes_41 : decode cXM_goes 41 = .ok (.iload_n 3, 1) := by decide +kernel
theorem dXM_goes_42 : decode cXM_goes 42 = .ok (.aload_n 0, 1) := by decide +kernel
theorem dXM_goes_43 : decode cXM_goes 43 = .ok (.getfield 24, 3) := by decide +kernel
theorem dXM_goes_46 : decode cXM_goes 46 = .ok (.iconst 4, 1) := by decide +kernel
theorem dXM_goes_47 : decode cXM_goes 47 = .ok (.iload_n 2, 1) := by decide +kernel
theorem dXM_goes_48 : decode cXM_goes 48 = .ok (.imul, 1) := by decide +kernel
theorem dXM_goes_49 : decode cXM_goes 49 = .ok (.iload_n 3, 1) := by decide +kernel
theorem dXM_goes_50 : decode cXM_goes 50 = .ok (.iadd, 1) := by decide +kernel
theorem dXM_goes_51 : decode cXM_goes 51 = .ok (.laload, 1) := by decide +kernel
theorem dXM_goes_52 : decode cXM_goes 52 = .ok (.lastore, 1) := by decide +kernel
theorem dXM_goes_53 : decode cXM_goes 53 = .ok (.iinc 3 1, 3) := by decide +kernel
theorem dXM_goes_56 : decode cXM_goes 56 = .ok (.goto (-24), 3) := by decide +kernel
theorem dXM_goes_59 : decode cXM_goes 59 = .ok (.aload_n 0, 1) := by decide +kernel
theorem dXM_goes_60 : decode cXM_goes 60 = .ok (.aload_n 0, 1) := by decide +kernel
theorem dXM_goes_61 : decode cXM_goes 61 = .ok (.getfield 20, 3) := by decide +kernel
theorem dXM_goes_64 : decode cXM_goes 64 = .ok (.iload_n 1, 1) := by decide +kernel
theorem dXM_goes_65 : decode cXM_goes 65 = .ok (.laload, 1) := by decide +kernel
theorem dXM_goes_66 : decode cXM_goes 66 = .ok (.putfield 55, 3) := by decide +kernel
theorem dXM_goes_69 : decode cXM_goes 69 = .ok (.aload_n 0, 1) := by decide +kernel
theorem dXM_goes_70 : decode cXM_goes 70 = .ok (.iconst 0, 1) := by decide +kernel
theorem dXM_goes_71 : decode cXM_goes 71 = .ok (.putfield 66, 3) := by decide +kernel
theorem dXM_goes_74 : decode cXM_goes 74 = .ok (.aload_n 0, 1) := by decide +kernel
theorem dXM_goes_75 : decode cXM_goes 75 = .ok (.getfield 7, 3) := by decide +kernel
theorem dXM_goes_78 : decode cXM_goes 78 = .ok (.aload_n 0, 1) := by decide +kernel
theorem dXM_goes_79 : decode cXM_goes 79 = .ok (.getfield 17, 3) := by decide +kernel
theorem dXM_goes_82 : decode cXM_goes 82 = .ok (.iload_n 1, 1) := by decide +kernel
theorem dXM_goes_83 : decode cXM_goes 83 = .ok (.iaload, 1) := by decide +kernel
theorem dXM_goes_84 : decode cXM_goes 84 = .ok (.iaload, 1) := by decide +kernel
theorem dXM_goes_85 : decode cXM_goes 85 = .ok (.istore_n 3, 1) := by decide +kernel
theorem dXM_goes_86 : decode cXM_goes 86 = .ok (.iconst 0, 1) := by decide +kernel
theorem dXM_goes_87 : decode cXM_goes 87 = .ok (.istore 4, 2) := by decide +kernel
theorem dXM_goes_89 : decode cXM_goes 89 = .ok (.iconst 0, 1) := by decide +kernel
theorem dXM_goes_90 : decode cXM_goes 90 = .ok (.istore 5, 2) := by decide +kernel
theorem dXM_goes_92 : decode cXM_goes 92 = .ok (.iload 4, 2) := by decide +kernel
theorem dXM_goes_94 : decode cXM_goes 94 = .ok (.bipush 8, 2) := by decide +kernel
theorem dXM_goes_96 : decode cXM_goes 96 = .ok (.if_icmp .ge 137, 3) := by decide +kernel
theorem dXM_goes_99 : decode cXM_goes 99 = .ok (.iload 5, 2) := by decide +kernel
theorem dXM_goes_101 : decode cXM_goes 101 = .ok (.aload_n 0, 1) := by decide +kernel
theorem dXM_goes_102 : decode cXM_goes 102 = .ok (.getfield 39, 3) := by decide +kernel
theorem dXM_goes_105 : decode cXM_goes 105 = .ok (.if_icmp .ne 6, 3) := by decide +kernel
theorem dXM_goes_108 : decode cXM_goes 108 = .ok (.bipush (-4), 2) := by decide +kernel
theorem dXM_goes_110 : decode cXM_goes 110 = .ok (.ireturn, 1) := by decide +kernel
theorem dXM_goes_111 : decode cXM_goes 111 = .ok (.iinc 5 1, 3) := by decide +kernel
theorem dXM_goes_114 : decode cXM_goes 114 = .ok (.iload_n 3, 1) := by decide +kernel
theorem dXM_goes_115 : decode cXM_goes 115 = .ok (.iconst 4, 1) := by decide +kernel
theorem dXM_goes_116 : decode cXM_goes 116 = .ok (.iload 4, 2) := by decide +kernel
theorem dXM_goes_118 : decode cXM_goes 118 = .ok (.imul, 1) := by decide +kernel
theorem dXM_goes_119 : decode cXM_goes 119 = .ok (.ishr, 1) := by decide +kernel
theorem dXM_goes_120 : decode cXM_goes 120 = .ok (.bipush 15, 2) := by decide +kernel
theorem dXM_goes_122 : decode cXM_goes 122 = .ok (.iand, 1) := by decide +kernel
theorem dXM_goes_123 : decode cXM_goes 123 = .ok (.istore 6, 2) := by decide +kernel
theorem dXM_goes_125 : decode cXM_goes 125 = .ok (.iinc 4 1, 3) := by decide +kernel
theorem dXM_goes_128 : decode cXM_goes 128 = .ok (.iload 6, 2) := by decide +kernel
theorem dXM_goes_130 : decode cXM_goes 130 = .ok (.iconst 4, 1) := by decide +kernel
theorem dXM_goes_131 : decode cXM_goes 131 = .ok (.if_icmp .ne 17, 3) := by decide +kernel
theorem dXM_goes_134 : decode cXM_goes 134 = .ok (.aload_n 0, 1) := by decide +kernel
theorem dXM_goes_135 : decode cXM_goes 135 = .ok (.getfield 36, 3) := by decide +kernel
theorem dXM_goes_138 : decode cXM_goes 138 = .ok (.iconst 1, 1) := by decide +kernel
theorem dXM_goes_139 : decode cXM_goes 139 = .ok (.laload, 1) := by decide +kernel
theorem dXM_goes_140 : decode cXM_goes 140 = .ok (.lconst 0, 1) := by decide +kernel
theorem dXM_goes_141 : decode cXM_goes 141 = .ok (.lcmp, 1) := by decide +kernel
theorem dXM_goes_142 : decode cXM_goes 142 = .ok (.ifCond .ne 6, 3) := by decide +kernel
theorem dXM_goes_145 : decode cXM_goes 145 = .ok (.bipush (-2), 2) := by decide +kernel
theorem dXM_goes_147 : decode cXM_goes 147 = .ok (.ireturn, 1) := by decide +kernel
theorem dXM_goes_148 : decode cXM_goes 148 = .ok (.iload 6, 2) := by decide +kernel
theorem dXM_goes_150 : decode cXM_goes 150 = .ok (.bipush 10, 2) := by decide +kernel
theorem dXM_goes_152 : decode cXM_goes 152 = .ok (.if_icmp .ne 6, 3) := by decide +kernel
theorem dXM_goes_155 : decode cXM_goes 155 = .ok (.bipush (-3), 2) := by decide +kernel
theorem dXM_goes_157 : decode cXM_goes 157 = .ok (.ireturn, 1) := by decide +kernel
theorem dXM_goes_158 : decode cXM_goes 158 = .ok (.aload_n 0, 1) := by decide +kernel
theorem dXM_goes_159 : decode cXM_goes 159 = .ok (.iload 6, 2) := by decide +kernel
theorem dXM_goes_161 : decode cXM_goes 161 = .ok (.invokevirtual 70, 3) := by decide +kernel
theorem dXM_goes_164 : decode cXM_goes 164 = .ok (.aload_n 0, 1) := by decide +kernel
theorem dXM_goes_165 : decode cXM_goes 165 = .ok (.aload_n 0, 1) := by decide +kernel
theorem dXM_goes_166 : decode cXM_goes 166 = .ok (.getfield 66, 3) := by decide +kernel
theorem dXM_goes_169 : decode cXM_goes 169 = .ok (.ifCond .ne 10, 3) := by decide +kernel
theorem dXM_goes_172 : decode cXM_goes 172 = .ok (.iload 6, 2) := by decide +kernel
theorem dXM_goes_174 : decode cXM_goes 174 = .ok (.bipush 7, 2) := by decide +kernel
theorem dXM_goes_176 : decode cXM_goes 176 = .ok (.if_icmp .ne 7, 3) := by decide +kernel
theorem dXM_goes_179 : decode cXM_goes 179 = .ok (.iconst 1, 1) := by decide +kernel
theorem dXM_goes_180 : decode cXM_goes 180 = .ok (.goto 4, 3) := by decide +kernel
theorem dXM_goes_183 : decode cXM_goes 183 = .ok (.iconst 0, 1) := by decide +kernel
theorem dXM_goes_184 : decode cXM_goes 184 = .ok (.putfield 66, 3) := by decide +kernel
theorem dXM_goes_187 : decode cXM_goes 187 = .ok (.iload 6, 2) := by decide +kernel
theorem dXM_goes_189 : decode cXM_goes 189 = .ok (.bipush 6, 2) := by decide +kernel
theorem dXM_goes_191 : decode cXM_goes 191 = .ok (.if_icmp .ne 23, 3) := by decide +kernel
theorem dXM_goes_194 : decode cXM_goes 194 = .ok (.aload_n 0, 1) := by decide +kernel
theorem dXM_goes_195 : decode cXM_goes 195 = .ok (.getfield 36, 3) := by decide +kernel
theorem dXM_goes_198 : decode cXM_goes 198 = .ok (.iconst 0, 1) := by decide +kernel
theorem dXM_goes_199 : decode cXM_goes 199 = .ok (.laload, 1) := by decide +kernel
theorem dXM_goes_200 : decode cXM_goes 200 = .ok (.aload_n 0, 1) := by decide +kernel
theorem dXM_goes_201 : decode cXM_goes 201 = .ok (.getfield 36, 3) := by decide +kernel
theorem dXM_goes_204 : decode cXM_goes 204 = .ok (.iconst 2, 1) := by decide +kernel
theorem dXM_goes_205 : decode cXM_goes 205 = .ok (.laload, 1) := by decide +kernel
theorem dXM_goes_206 : decode cXM_goes 206 = .ok (.lcmp, 1) := by decide +kernel
theorem dXM_goes_207 : decode cXM_goes 207 = .ok (.ifCond .ge 7, 3) := by decide +kernel
theorem dXM_goes_210 : decode cXM_goes 210 = .ok (.iconst 0, 1) := by decide +kernel
theorem dXM_goes_211 : decode cXM_goes 211 = .ok (.goto 17, 3) := by decide +kernel
theorem dXM_goes_214 : decode cXM_goes 214 = .ok (.iload 6, 2) := by decide +kernel
theorem dXM_goes_216 : decode cXM_goes 216 = .ok (.bipush 13, 2) := by decide +kernel
theorem dXM_goes_218 : decode cXM_goes 218 = .ok (.if_icmp .ne 8, 3) := by decide +kernel
theorem dXM_goes_221 : decode cXM_goes 221 = .ok (.bipush 8, 2) := by decide +kernel
theorem dXM_goes_223 : decode cXM_goes 223 = .ok (.goto 5, 3) := by decide +kernel
theorem dXM_goes_226 : decode cXM_goes 226 = .ok (.iload 4, 2) := by decide +kernel
theorem dXM_goes_228 : decode cXM_goes 228 = .ok (.istore 4, 2) := by decide +kernel
theorem dXM_goes_230 : decode cXM_goes 230 = .ok (.goto (-138), 3) := by decide +kernel
theorem dXM_goes_233 : decode cXM_goes 233 = .ok (.iconst 1, 1) := by decide +kernel
theorem dXM_goes_234 : decode cXM_goes 234 = .ok (.ireturn, 1) := by decide +kernel
theorem dXM_run_0 : decode cXM_run 0 = .ok (.aload_n 0, 1) := by decide +kernel
theorem dXM_run_1 : decode cXM_run 1 = .ok (.iconst 0, 1) := by decide +kernel
theorem dXM_run_2 : decode cXM_run 2 = .ok (.putfield 43, 3) := by decide +kernel
theorem dXM_run_5 : decode cXM_run 5 = .ok (.aload_n 0, 1) := by decide +kernel
theorem dXM_run_6 : decode cXM_run 6 = .ok (.iload_n 1, 1) := by decide +kernel
theorem dXM_run_7 : decode cXM_run 7 = .ok (.iload_n 2, 1) := by decide +kernel
theorem dXM_run_8 : decode cXM_run 8 = .ok (.invokevirtual 74, 3) := by decide +kernel
theorem dXM_run_11 : decode cXM_run 11 = .ok (.istore_n 3, 1) := by decide +kernel
theorem dXM_run_12 : decode cXM_run 12 = .ok (.iload_n 3, 1) := by decide +kernel
theorem dXM_run_13 : decode cXM_run 13 = .ok (.iconst (-1), 1) := by decide +kernel
theorem dXM_run_14 : decode cXM_run 14 = .ok (.if_icmp .ne 5, 3) := by decide +kernel
theorem dXM_run_17 : decode cXM_run 17 = .ok (.iload_n 3, 1) := by decide +kernel
theorem dXM_run_18 : decode cXM_run 18 = .ok (.ireturn, 1) := by decide +kernel
theorem dXM_run_19 : decode cXM_run 19 = .ok (.aload_n 0, 1) := by decide +kernel
theorem dXM_run_20 : decode cXM_run 20 = .ok (.iload_n 2, 1) := by decide +kernel
theorem dXM_run_21 : decode cXM_run 21 = .ok (.putfield 78, 3) := by decide +kernel
theorem dXM_run_24 : decode cXM_run 24 = .ok (.aload_n 0, 1) := by decide +kernel
theorem dXM_run_25 : decode cXM_run 25 = .ok (.iload_n 3, 1) := by decide +kernel
theorem dXM_run_26 : decode cXM_run 26 = .ok (.iconst 1, 1) := by decide +kernel
theorem dXM_run_27 : decode cXM_run 27 = .ok (.if_icmp .ne 7, 3) := by decide +kernel
theorem dXM_run_30 : decode cXM_run 30 = .ok (.iconst 1, 1) := by decide +kernel
theorem dXM_run_31 : decode cXM_run 31 = .ok (.goto 4, 3) := by decide +kernel
theorem dXM_run_34 : decode cXM_run 34 = .ok (.iconst 0, 1) := by decide +kernel
theorem dXM_run_35 : decode cXM_run 35 = .ok (.putfield 81, 3) := by decide +kernel
theorem dXM_run_38 : decode cXM_run 38 = .ok (.iload_n 3, 1) := by decide +kernel
theorem dXM_run_39 : decode cXM_run 39 = .ok (.iconst 1, 1) := by decide +kernel
theorem dXM_run_40 : decode cXM_run 40 = .ok (.if_icmp .ne 71, 3) := by decide +kernel
theorem dXM_run_43 : decode cXM_run 43 = .ok (.iconst 0, 1) := by decide +kernel
theorem dXM_run_44 : decode cXM_run 44 = .ok (.istore 4, 2) := by decide +kernel
theorem dXM_run_46 : decode cXM_run 46 = .ok (.iload 4, 2) := by decide +kernel
theorem dXM_run_48 : decode cXM_run 48 = .ok (.iconst 4, 1) := by decide +kernel
theorem dXM_run_49 : decode cXM_run 49 = .ok (.if_icmp .ge 27, 3) := by decide +kernel
theorem dXM_run_52 : decode cXM_run 52 = .ok (.aload_n 0, 1) := by decide +kernel
theorem dXM_run_53 : decode cXM_run 53 = .ok (.getfield 24, 3) := by decide +kernel
theorem dXM_run_56 : decode cXM_run 56 = .ok (.iconst 4, 1) := by decide +kernel
theorem dXM_run_57 : decode cXM_run 57 = .ok (.iload_n 2, 1) := by decide +kernel
theorem dXM_run_58 : decode cXM_run 58 = .ok (.imul, 1) := by decide +kernel
theorem dXM_run_59 : decode cXM_run 59 = .ok (.iload 4, 2) := by decide +kernel
theorem dXM_run_61 : decode cXM_run 61 = .ok (.iadd, 1) := by decide +kernel
theorem dXM_run_62 : decode cXM_run 62 = .ok (.aload_n 0, 1) := by decide +kernel
theorem dXM_run_63 : decode cXM_run 63 = .ok (.getfield 36, 3) := by decide +kernel
theorem dXM_run_66 : decode cXM_run 66 = .ok (.iload 4, 2) := by decide +kernel
theorem dXM_run_68 : decode cXM_run 68 = .ok (.laload, 1) := by decide +kernel
theorem dXM_run_69 : decode cXM_run 69 = .ok (.lastore, 1) := by decide +kernel
theorem dXM_run_70 : decode cXM_run 70 = .ok (.iinc 4 1, 3) := by decide +kernel
theorem dXM_run_73 : decode cXM_run 73 = .ok (.goto (-27), 3) := by decide +kernel
theorem dXM_run_76 : decode cXM_run 76 = .ok (.aload_n 0, 1) := by decide +kernel
theorem dXM_run_77 : decode cXM_run 77 = .ok (.getfield 20, 3) := by decide +kernel
theorem dXM_run_80 : decode cXM_run 80 = .ok (.iload_n 1, 1) := by decide +kernel
theorem dXM_run_81 : decode cXM_run 81 = .ok (.aload_n 0, 1) := by decide +kernel
theorem dXM_run_82 : decode cXM_run 82 = .ok (.getfield 55, 3) := by decide +kernel
theorem dXM_run_85 : decode cXM_run 85 = .ok (.lastore, 1) := by decide +kernel
theorem dXM_run_86 : decode cXM_run 86 = .ok (.aload_n 0, 1) := by decide +kernel
theorem dXM_run_87 : decode cXM_run 87 = .ok (.getfield 27, 3) := by decide +kernel
theorem dXM_run_90 : decode cXM_run 90 = .ok (.iload_n 2, 1) := by decide +kernel
theorem dXM_run_91 : decode cXM_run 91 = .ok (.aload_n 0, 1) := by decide +kernel
theorem dXM_run_92 : decode cXM_run 92 = .ok (.getfield 66, 3) := by decide +kernel
theorem dXM_run_95 : decode cXM_run 95 = .ok (.bastore, 1) := by decide +kernel
theorem dXM_run_96 : decode cXM_run 96 = .ok (.aload_n 0, 1) := by decide +kernel
theorem dXM_run_97 : decode cXM_run 97 = .ok (.getfield 30, 3) := by decide +kernel
theorem dXM_run_100 : decode cXM_run 100 = .ok (.bipush 61, 2) := by decide +kernel
theorem dXM_run_102 : decode cXM_run 102 = .ok (.iload_n 1, 1) := by decide +kernel
theorem dXM_run_103 : decode cXM_run 103 = .ok (.imul, 1) := by decide +kernel
theorem dXM_run_104 : decode cXM_run 104 = .ok (.iload_n 2, 1) := by decide +kernel
theorem dXM_run_105 : decode cXM_run 105 = .ok (.iadd, 1) := by decide +kernel
theorem dXM_run_106 : decode cXM_run 106 = .ok (.iconst 1, 1) := by decide +kernel
theorem dXM_run_107 : decode cXM_run 107 = .ok (.bastore, 1) := by decide +kernel
theorem dXM_run_108 : decode cXM_run 108 = .ok (.goto 63, 3) := by decide +kernel
theorem dXM_run_111 : decode cXM_run 111 = .ok (.aload_n 0, 1) := by decide +kernel
theorem dXM_run_112 : decode cXM_run 112 = .ok (.getfield 84, 3) := by decide +kernel
theorem dXM_run_115 : decode cXM_run 115 = .ok (.bipush 100, 2) := by decide +kernel
theorem dXM_run_117 : decode cXM_run 117 = .ok (.if_icmp .ge 44, 3) := by decide +kernel
theorem dXM_run_120 : decode cXM_run 120 = .ok (.aload_n 0, 1) := by decide +kernel
theorem dXM_run_121 : decode cXM_run 121 = .ok (.getfield 33, 3) := by decide +kernel
theorem dXM_run_124 : decode cXM_run 124 = .ok (.iconst 3, 1) := by decide +kernel
theorem dXM_run_125 : decode cXM_run 125 = .ok (.aload_n 0, 1) := by decide +kernel
theorem dXM_run_126 : decode cXM_run 126 = .ok (.getfield 84, 3) := by decide +kernel
theorem dXM_run_129 : decode cXM_run 129 = .ok (.imul, 1) := by decide +kernel
theorem dXM_run_130 : decode cXM_run 130 = .ok (.iload_n 2, 1) := by decide +kernel
theorem dXM_run_131 : decode cXM_run 131 = .ok (.iastore, 1) := by decide +kernel
theorem dXM_run_132 : decode cXM_run 132 = .ok (.aload_n 0, 1) := by decide +kernel
theorem dXM_run_133 : decode cXM_run 133 = .ok (.getfield 33, 3) := by decide +kernel
theorem dXM_run_136 : decode cXM_run 136 = .ok (.iconst 3, 1) := by decide +kernel
theorem dXM_run_137 : decode cXM_run 137 = .ok (.aload_n 0, 1) := by decide +kernel
theorem dXM_run_138 : decode cXM_run 138 = .ok (.getfield 84, 3) := by decide +kernel
theorem dXM_run_141 : decode cXM_run 141 = .ok (.imul, 1) := by decide +kernel
theorem dXM_run_142 : decode cXM_run 142 = .ok (.iconst 1, 1) := by decide +kernel
theorem dXM_run_143 : decode cXM_run 143 = .ok (.iadd, 1) := by decide +kernel
theorem dXM_run_144 : decode cXM_run 144 = .ok (.iload_n 3, 1) := by decide +kernel
theorem dXM_run_145 : decode cXM_run 145 = .ok (.ineg, 1) := by decide +kernel
theorem dXM_run_146 : decode cXM_run 146 = .ok (.iastore, 1) := by decide +kernel
theorem dXM_run_147 : decode cXM_run 147 = .ok (.aload_n 0, 1) := by decide +kernel
theorem dXM_run_148 : decode cXM_run 148 = .ok (.getfield 33, 3) := by decide +kernel
theorem dXM_run_151 : decode cXM_run 151 = .ok (.iconst 3, 1) := by decide +kernel
theorem dXM_run_152 : decode cXM_run 152 = .ok (.aload_n 0, 1) := by decide +kernel
theorem dXM_run_153 : decode cXM_run 153 = .ok (.getfield 84, 3) := by decide +kernel
theorem dXM_run_156 : decode cXM_run 156 = .ok (.imul, 1) := by decide +kernel
theorem dXM_run_157 : decode cXM_run 157 = .ok (.iconst 2, 1) := by decide +kernel
theorem dXM_run_158 : decode cXM_run 158 = .ok (.iadd, 1) := by decide +kernel
theorem dXM_run_159 : decode cXM_run 159 = .ok (.iload_n 1, 1) := by decide +kernel
theorem dXM_run_160 : decode cXM_run 160 = .ok (.iastore, 1) := by decide +kernel
theorem dXM_run_161 : decode cXM_run 161 = .ok (.aload_n 0, 1) := by decide +kernel
theorem dXM_run_162 : decode cXM_run 162 = .ok (.dup, 1) := by decide +kernel
theorem dXM_run_163 : decode cXM_run 163 = .ok (.getfield 84, 3) := by decide +kernel
theorem dXM_run_166 : decode cXM_run 166 = .ok (.iconst 1, 1) := by decide +kernel
theorem dXM_run_167 : decode cXM_run 167 = .ok (.iadd, 1) := by decide +kernel
theorem dXM_run_168 : decode cXM_run 168 = .ok (.putfield 84, 3) := by decide +kernel
theorem dXM_run_171 : decode cXM_run 171 = .ok (.iload_n 3, 1) := by decide +kernel
theorem dXM_run_172 : decode cXM_run 172 = .ok (.ireturn, 1) := by decide +kernel
theorem dXM_resume_0 : decode cXM_resume 0 = .ok (.aload_n 0, 1) := by decide +kernel
theorem dXM_resume_1 : decode cXM_resume 1 = .ok (.iconst 0, 1) := by decide +kernel
theorem dXM_resume_2 : decode cXM_resume 2 = .ok (.putfield 43, 3) := by decide +kernel
theorem dXM_resume_5 : decode cXM_resume 5 = .ok (.aload_n 0, 1) := by decide +kernel
theorem dXM_resume_6 : decode cXM_resume 6 = .ok (.iload_n 1, 1) := by decide +kernel
theorem dXM_resume_7 : decode cXM_resume 7 = .ok (.invokevirtual 59, 3) := by decide +kernel
theorem dXM_resume_10 : decode cXM_resume 10 = .ok (.ifCond .ne 5, 3) := by decide +kernel
theorem dXM_resume_13 : decode cXM_resume 13 = .ok (.iconst (-1), 1) := by decide +kernel
theorem dXM_resume_14 : decode cXM_resume 14 = .ok (.ireturn, 1) := by decide +kernel
theorem dXM_resume_15 : decode cXM_resume 15 = .ok (.aload_n 0, 1) := by decide +kernel
theorem dXM_resume_16 : decode cXM_resume 16 = .ok (.getfield 49, 3) := by decide +kernel
theorem dXM_resume_19 : decode cXM_resume 19 = .ok (.istore_n 2, 1) := by decide +kernel
theorem dXM_resume_20 : decode cXM_resume 20 = .ok (.iload_n 2, 1) := by decide +kernel
theorem dXM_resume_21 : decode cXM_resume 21 = .ok (.ifCond .le 23, 3) := by decide +kernel
theorem dXM_resume_24 : decode cXM_resume 24 = .ok (.aload_n 0, 1) := by decide +kernel
theorem dXM_resume_25 : decode cXM_resume 25 = .ok (.getfield 30, 3) := by decide +kernel
theorem dXM_resume_28 : decode cXM_resume 28 = .ok (.bipush 61, 2) := by decide +kernel
theorem dXM_resume_30 : decode cXM_resume 30 = .ok (.iload_n 1, 1) := by decide +kernel
theorem dXM_resume_31 : decode cXM_resume 31 = .ok (.imul, 1) := by decide +kernel
theorem dXM_resume_32 : decode cXM_resume 32 = .ok (.iload_n 2, 1) := by decide +kernel
theorem dXM_resume_33 : decode cXM_resume 33 = .ok (.iadd, 1) := by decide +kernel
theorem dXM_resume_34 : decode cXM_resume 34 = .ok (.baload, 1) := by decide +kernel
theorem dXM_resume_35 : decode cXM_resume 35 = .ok (.ifCond .ne 9, 3) := by decide +kernel
theorem dXM_resume_38 : decode cXM_resume 38 = .ok (.iinc 2 (-1), 3) := by decide +kernel
theorem dXM_resume_41 : decode cXM_resume 41 = .ok (.goto (-21), 3) := by decide +kernel
theorem dXM_resume_44 : decode cXM_resume 44 = .ok (.iload_n 2, 1) := by decide +kernel
theorem dXM_resume_45 : decode cXM_resume 45 = .ok (.iconst 1, 1) := by decide +kernel
theorem dXM_resume_46 : decode cXM_resume 46 = .ok (.iadd, 1) := by decide +kernel
theorem dXM_resume_47 : decode cXM_resume 47 = .ok (.istore_n 2, 1) := by decide +kernel
theorem dXM_resume_48 : decode cXM_resume 48 = .ok (.iload_n 2, 1) := by decide +kernel
theorem dXM_resume_49 : decode cXM_resume 49 = .ok (.aload_n 0, 1) := by decide +kernel
theorem dXM_resume_50 : decode cXM_resume 50 = .ok (.getfield 49, 3) := by decide +kernel
theorem dXM_resume_53 : decode cXM_resume 53 = .ok (.if_icmp .gt 21, 3) := by decide +kernel
theorem dXM_resume_56 : decode cXM_resume 56 = .ok (.aload_n 0, 1) := by decide +kernel
theorem dXM_resume_57 : decode cXM_resume 57 = .ok (.iload_n 1, 1) := by decide +kernel
theorem dXM_resume_58 : decode cXM_resume 58 = .ok (.iload_n 2, 1) := by decide +kernel
theorem dXM_resume_59 : decode cXM_resume 59 = .ok (.invokevirtual 87, 3) := by decide +kernel
theorem dXM_resume_62 : decode cXM_resume 62 = .ok (.iconst 1, 1) := by decide +kernel
theorem dXM_resume_63 : decode cXM_resume 63 = .ok (.if_icmp .eq 5, 3) := by decide +kernel
theorem dXM_resume_66 : decode cXM_resume 66 = .ok (.iload_n 2, 1) := by decide +kernel
theorem dXM_resume_67 : decode cXM_resume 67 = .ok (.ireturn, 1) := by decide +kernel
theorem dXM_resume_68 : decode cXM_resume 68 = .ok (.iinc 2 1, 3) := by decide +kernel
theorem dXM_resume_71 : decode cXM_resume 71 = .ok (.goto (-23), 3) := by decide +kernel
theorem dXM_resume_74 : decode cXM_resume 74 = .ok (.iconst 0, 1) := by decide +kernel
theorem dXM_resume_75 : decode cXM_resume 75 = .ok (.ireturn, 1) := by decide +kernel
theorem dXM_dry_0 : decode cXM_dry 0 = .ok (.aload_n 0, 1) := by decide +kernel
theorem dXM_dry_1 : decode cXM_dry 1 = .ok (.iconst 0, 1) := by decide +kernel
theorem dXM_dry_2 : decode cXM_dry 2 = .ok (.putfield 43, 3) := by decide +kernel
theorem dXM_dry_5 : decode cXM_dry 5 = .ok (.aload_n 0, 1) := by decide +kernel
theorem dXM_dry_6 : decode cXM_dry 6 = .ok (.iload_n 1, 1) := by decide +kernel
theorem dXM_dry_7 : decode cXM_dry 7 = .ok (.iload_n 2, 1) := by decide +kernel
theorem dXM_dry_8 : decode cXM_dry 8 = .ok (.invokevirtual 74, 3) := by decide +kernel
theorem dXM_dry_11 : decode cXM_dry 11 = .ok (.istore_n 3, 1) := by decide +kernel
theorem dXM_dry_12 : decode cXM_dry 12 = .ok (.iload_n 3, 1) := by decide +kernel
theorem dXM_dry_13 : decode cXM_dry 13 = .ok (.iconst 1, 1) := by decide +kernel
theorem dXM_dry_14 : decode cXM_dry 14 = .ok (.if_icmp .eq 5, 3) := by decide +kernel
theorem dXM_dry_17 : decode cXM_dry 17 = .ok (.iload_n 3, 1) := by decide +kernel
theorem dXM_dry_18 : decode cXM_dry 18 = .ok (.ireturn, 1) := by decide +kernel
theorem dXM_dry_19 : decode cXM_dry 19 = .ok (.iconst 0, 1) := by decide +kernel
theorem dXM_dry_20 : decode cXM_dry 20 = .ok (.istore 4, 2) := by decide +kernel
theorem dXM_dry_22 : decode cXM_dry 22 = .ok (.iconst 0, 1) := by decide +kernel
theorem dXM_dry_23 : decode cXM_dry 23 = .ok (.istore 5, 2) := by decide +kernel
theorem dXM_dry_25 : decode cXM_dry 25 = .ok (.iload 5, 2) := by decide +kernel
theorem dXM_dry_27 : decode cXM_dry 27 = .ok (.iconst 4, 1) := by decide +kernel
theorem dXM_dry_28 : decode cXM_dry 28 = .ok (.if_icmp .ge 41, 3) := by decide +kernel
theorem dXM_dry_31 : decode cXM_dry 31 = .ok (.iload 4, 2) := by decide +kernel
theorem dXM_dry_33 : decode cXM_dry 33 = .ok (.aload_n 0, 1) := by decide +kernel
theorem dXM_dry_34 : decode cXM_dry 34 = .ok (.getfield 24, 3) := by decide +kernel
theorem dXM_dry_37 : decode cXM_dry 37 = .ok (.iconst 4, 1) := by decide +kernel
theorem dXM_dry_38 : decode cXM_dry 38 = .ok (.iload_n 2, 1) := by decide +kernel
theorem dXM_dry_39 : decode cXM_dry 39 = .ok (.imul, 1) := by decide +kernel
theorem dXM_dry_40 : decode cXM_dry 40 = .ok (.iload 5, 2) := by decide +kernel
theorem dXM_dry_42 : decode cXM_dry 42 = .ok (.iadd, 1) := by decide +kernel
theorem dXM_dry_43 : decode cXM_dry 43 = .ok (.laload, 1) := by decide +kernel
theorem dXM_dry_44 : decode cXM_dry 44 = .ok (.aload_n 0, 1) := by decide +kernel
theorem dXM_dry_45 : decode cXM_dry 45 = .ok (.getfield 36, 3) := by decide +kernel
theorem dXM_dry_48 : decode cXM_dry 48 = .ok (.iload 5, 2) := by decide +kernel
theorem dXM_dry_50 : decode cXM_dry 50 = .ok (.laload, 1) := by decide +kernel
theorem dXM_dry_51 : decode cXM_dry 51 = .ok (.lcmp, 1) := by decide +kernel
theorem dXM_dry_52 : decode cXM_dry 52 = .ok (.ifCond .eq 7, 3) := by decide +kernel
theorem dXM_dry_55 : decode cXM_dry 55 = .ok (.iconst 1, 1) := by decide +kernel
theorem dXM_dry_56 : decode cXM_dry 56 = .ok (.goto 4, 3) := by decide +kernel
theorem dXM_dry_59 : decode cXM_dry 59 = .ok (.iconst 0, 1) := by decide +kernel
theorem dXM_dry_60 : decode cXM_dry 60 = .ok (.iadd, 1) := by decide +kernel
theorem dXM_dry_61 : decode cXM_dry 61 = .ok (.istore 4, 2) := by decide +kernel
theorem dXM_dry_63 : decode cXM_dry 63 = .ok (.iinc 5 1, 3) := by decide +kernel
theorem dXM_dry_66 : decode cXM_dry 66 = .ok (.goto (-41), 3) := by decide +kernel
theorem dXM_dry_69 : decode cXM_dry 69 = .ok (.iload 4, 2) := by decide +kernel
theorem dXM_dry_71 : decode cXM_dry 71 = .ok (.ireturn, 1) := by decide +kernel
theorem dXM_value_0 : decode cXM_value 0 = .ok (.aload_n 0, 1) := by decide +kernel
theorem dXM_value_1 : decode cXM_value 1 = .ok (.iconst 0, 1) := by decide +kernel
theorem dXM_value_2 : decode cXM_value 2 = .ok (.putfield 43, 3) := by decide +kernel
theorem dXM_value_5 : decode cXM_value 5 = .ok (.aload_n 0, 1) := by decide +kernel
theorem dXM_value_6 : decode cXM_value 6 = .ok (.iload_n 1, 1) := by decide +kernel
theorem dXM_value_7 : decode cXM_value 7 = .ok (.invokevirtual 63, 3) := by decide +kernel
theorem dXM_value_10 : decode cXM_value 10 = .ok (.ifCond .eq 25, 3) := by decide +kernel
theorem dXM_value_13 : decode cXM_value 13 = .ok (.iload_n 2, 1) := by decide +kernel
theorem dXM_value_14 : decode cXM_value 14 = .ok (.ifCond .lt 21, 3) := by decide +kernel
theorem dXM_value_17 : decode cXM_value 17 = .ok (.iload_n 2, 1) := by decide +kernel
theorem dXM_value_18 : decode cXM_value 18 = .ok (.iconst 4, 1) := by decide +kernel
theorem dXM_value_19 : decode cXM_value 19 = .ok (.if_icmp .ge 16, 3) := by decide +kernel
theorem dXM_value_22 : decode cXM_value 22 = .ok (.aload_n 0, 1) := by decide +kernel
theorem dXM_value_23 : decode cXM_value 23 = .ok (.getfield 24, 3) := by decide +kernel
theorem dXM_value_26 : decode cXM_value 26 = .ok (.iconst 4, 1) := by decide +kernel
theorem dXM_value_27 : decode cXM_value 27 = .ok (.iload_n 1, 1) := by decide +kernel
theorem dXM_value_28 : decode cXM_value 28 = .ok (.imul, 1) := by decide +kernel
theorem dXM_value_29 : decode cXM_value 29 = .ok (.iload_n 2, 1) := by decide +kernel
theorem dXM_value_30 : decode cXM_value 30 = .ok (.iadd, 1) := by decide +kernel
theorem dXM_value_31 : decode cXM_value 31 = .ok (.laload, 1) := by decide +kernel
theorem dXM_value_32 : decode cXM_value 32 = .ok (.goto 4, 3) := by decide +kernel
theorem dXM_value_35 : decode cXM_value 35 = .ok (.lconst 0, 1) := by decide +kernel
theorem dXM_value_36 : decode cXM_value 36 = .ok (.lreturn, 1) := by decide +kernel
theorem dXM_failed_0 : decode cXM_failed 0 = .ok (.aload_n 0, 1) := by decide +kernel
theorem dXM_failed_1 : decode cXM_failed 1 = .ok (.iconst 0, 1) := by decide +kernel
theorem dXM_failed_2 : decode cXM_failed 2 = .ok (.putfield 43, 3) := by decide +kernel
theorem dXM_failed_5 : decode cXM_failed 5 = .ok (.iload_n 1, 1) := by decide +kernel
theorem dXM_failed_6 : decode cXM_failed 6 = .ok (.ifCond .lt 26, 3) := by decide +kernel
theorem dXM_failed_9 : decode cXM_failed 9 = .ok (.iload_n 1, 1) := by decide +kernel
theorem dXM_failed_10 : decode cXM_failed 10 = .ok (.bipush 99, 2) := by decide +kernel
theorem dXM_failed_12 : decode cXM_failed 12 = .ok (.if_icmp .gt 20, 3) := by decide +kernel
theorem dXM_failed_15 : decode cXM_failed 15 = .ok (.iload_n 1, 1) := by decide +kernel
theorem dXM_failed_16 : decode cXM_failed 16 = .ok (.aload_n 0, 1) := by decide +kernel
theorem dXM_failed_17 : decode cXM_failed 17 = .ok (.getfield 84, 3) := by decide +kernel
theorem dXM_failed_20 : decode cXM_failed 20 = .ok (.if_icmp .ge 12, 3) := by decide +kernel
theorem dXM_failed_23 : decode cXM_failed 23 = .ok (.iload_n 2, 1) := by decide +kernel
theorem dXM_failed_24 : decode cXM_failed 24 = .ok (.ifCond .lt 8, 3) := by decide +kernel
theorem dXM_failed_27 : decode cXM_failed 27 = .ok (.iload_n 2, 1) := by decide +kernel
theorem dXM_failed_28 : decode cXM_failed 28 = .ok (.iconst 2, 1) := by decide +kernel
theorem dXM_failed_29 : decode cXM_failed 29 = .ok (.if_icmp .le 7, 3) := by decide +kernel
theorem dXM_failed_32 : decode cXM_failed 32 = .ok (.iconst (-1), 1) := by decide +kernel
theorem dXM_failed_33 : decode cXM_failed 33 = .ok (.goto 13, 3) := by decide +kernel
theorem dXM_failed_36 : decode cXM_failed 36 = .ok (.aload_n 0, 1) := by decide +kernel
theorem dXM_failed_37 : decode cXM_failed 37 = .ok (.getfield 33, 3) := by decide +kernel
theorem dXM_failed_40 : decode cXM_failed 40 = .ok (.iconst 3, 1) := by decide +kernel
theorem dXM_failed_41 : decode cXM_failed 41 = .ok (.iload_n 1, 1) := by decide +kernel
theorem dXM_failed_42 : decode cXM_failed 42 = .ok (.imul, 1) := by decide +kernel
theorem dXM_failed_43 : decode cXM_failed 43 = .ok (.iload_n 2, 1) := by decide +kernel
theorem dXM_failed_44 : decode cXM_failed 44 = .ok (.iadd, 1) := by decide +kernel
theorem dXM_failed_45 : decode cXM_failed 45 = .ok (.iaload, 1) := by decide +kernel
theorem dXM_failed_46 : decode cXM_failed 46 = .ok (.ireturn, 1) := by decide +kernel
theorem dXM_cell_0 : decode cXM_cell 0 = .ok (.aload_n 0, 1) := by decide +kernel
theorem dXM_cell_1 : decode cXM_cell 1 = .ok (.iconst 0, 1) := by decide +kernel
theorem dXM_cell_2 : decode cXM_cell 2 = .ok (.putfield 43, 3) := by decide +kernel
theorem dXM_cell_5 : decode cXM_cell 5 = .ok (.aload_n 0, 1) := by decide +kernel
theorem dXM_cell_6 : decode cXM_cell 6 = .ok (.iload_n 1, 1) := by decide +kernel
theorem dXM_cell_7 : decode cXM_cell 7 = .ok (.invokevirtual 59, 3) := by decide +kernel
theorem dXM_cell_10 : decode cXM_cell 10 = .ok (.ifCond .eq 12, 3) := by decide +kernel
theorem dXM_cell_13 : decode cXM_cell 13 = .ok (.aload_n 0, 1) := by decide +kernel
theorem dXM_cell_14 : decode cXM_cell 14 = .ok (.getfield 20, 3) := by decide +kernel
theorem dXM_cell_17 : decode cXM_cell 17 = .ok (.iload_n 1, 1) := by decide +kernel
theorem dXM_cell_18 : decode cXM_cell 18 = .ok (.laload, 1) := by decide +kernel
theorem dXM_cell_19 : decode cXM_cell 19 = .ok (.goto 4, 3) := by decide +kernel
theorem dXM_cell_22 : decode cXM_cell 22 = .ok (.lconst 0, 1) := by decide +kernel
theorem dXM_cell_23 : decode cXM_cell 23 = .ok (.lreturn, 1) := by decide +kernel
theorem dXM_same_0 : decode cXM_same 0 = .ok (.aload_n 0, 1) := by decide +kernel
theorem dXM_same_1 : decode cXM_same 1 = .ok (.iconst 0, 1) := by decide +kernel
theorem dXM_same_2 : decode cXM_same 2 = .ok (.putfield 43, 3) := by decide +kernel
theorem dXM_same_5 : decode cXM_same 5 = .ok (.aload_n 0, 1) := by decide +kernel
theorem dXM_same_6 : decode cXM_same 6 = .ok (.iload_n 1, 1) := by decide +kernel
theorem dXM_same_7 : decode cXM_same 7 = .ok (.invokevirtual 59, 3) := by decide +kernel
theorem dXM_same_10 : decode cXM_same 10 = .ok (.ifCond .eq 30, 3) := by decide +kernel
theorem dXM_same_13 : decode cXM_same 13 = .ok (.aload_n 0, 1) := by decide +kernel
theorem dXM_same_14 : decode cXM_same 14 = .ok (.iload_n 2, 1) := by decide +kernel
theorem dXM_same_15 : decode cXM_same 15 = .ok (.invokevirtual 59, 3) := by decide +kernel
theorem dXM_same_18 : decode cXM_same 18 = .ok (.ifCond .eq 22, 3) := by decide +kernel
theorem dXM_same_21 : decode cXM_same 21 = .ok (.aload_n 0, 1) := by decide +kernel
theorem dXM_same_22 : decode cXM_same 22 = .ok (.getfield 17, 3) := by decide +kernel
theorem dXM_same_25 : decode cXM_same 25 = .ok (.iload_n 1, 1) := by decide +kernel
theorem dXM_same_26 : decode cXM_same 26 = .ok (.iaload, 1) := by decide +kernel
theorem dXM_same_27 : decode cXM_same 27 = .ok (.aload_n 0, 1) := by decide +kernel
theorem dXM_same_28 : decode cXM_same 28 = .ok (.getfield 17, 3) := by decide +kernel
theorem dXM_same_31 : decode cXM_same 31 = .ok (.iload_n 2, 1) := by decide +kernel
theorem dXM_same_32 : decode cXM_same 32 = .ok (.iaload, 1) := by decide +kernel
theorem dXM_same_33 : decode cXM_same 33 = .ok (.if_icmp .ne 7, 3) := by decide +kernel
theorem dXM_same_36 : decode cXM_same 36 = .ok (.iconst 1, 1) := by decide +kernel
theorem dXM_same_37 : decode cXM_same 37 = .ok (.goto 4, 3) := by decide +kernel
theorem dXM_same_40 : decode cXM_same 40 = .ok (.iconst 0, 1) := by decide +kernel
theorem dXM_same_41 : decode cXM_same 41 = .ok (.ireturn, 1) := by decide +kernel
theorem dXM_divide_0 : decode cXM_divide 0 = .ok (.aload_n 0, 1) := by decide +kernel
theorem dXM_divide_1 : decode cXM_divide 1 = .ok (.iconst 0, 1) := by decide +kernel
theorem dXM_divide_2 : decode cXM_divide 2 = .ok (.putfield 43, 3) := by decide +kernel
theorem dXM_divide_5 : decode cXM_divide 5 = .ok (.aload_n 0, 1) := by decide +kernel
theorem dXM_divide_6 : decode cXM_divide 6 = .ok (.iload_n 1, 1) := by decide +kernel
theorem dXM_divide_7 : decode cXM_divide 7 = .ok (.invokevirtual 59, 3) := by decide +kernel
theorem dXM_divide_10 : decode cXM_divide 10 = .ok (.ifCond .ne 5, 3) := by decide +kernel
theorem dXM_divide_13 : decode cXM_divide 13 = .ok (.lconst 0, 1) := by decide +kernel
theorem dXM_divide_14 : decode cXM_divide 14 = .ok (.lreturn, 1) := by decide +kernel
theorem dXM_divide_15 : decode cXM_divide 15 = .ok (.lload 4, 2) := by decide +kernel
theorem dXM_divide_17 : decode cXM_divide 17 = .ok (.lconst 0, 1) := by decide +kernel
theorem dXM_divide_18 : decode cXM_divide 18 = .ok (.lcmp, 1) := by decide +kernel
theorem dXM_divide_19 : decode cXM_divide 19 = .ok (.ifCond .ne 10, 3) := by decide +kernel
theorem dXM_divide_22 : decode cXM_divide 22 = .ok (.aload_n 0, 1) := by decide +kernel
theorem dXM_divide_23 : decode cXM_divide 23 = .ok (.iconst 1, 1) := by decide +kernel
theorem dXM_divide_24 : decode cXM_divide 24 = .ok (.putfield 43, 3) := by decide +kernel
theorem dXM_divide_27 : decode cXM_divide 27 = .ok (.lconst 0, 1) := by decide +kernel
theorem dXM_divide_28 : decode cXM_divide 28 = .ok (.lreturn, 1) := by decide +kernel
theorem dXM_divide_29 : decode cXM_divide 29 = .ok (.lload_n 2, 1) := by decide +kernel
theorem dXM_divide_30 : decode cXM_divide 30 = .ok (.lload 4, 2) := by decide +kernel
theorem dXM_divide_32 : decode cXM_divide 32 = .ok (.ldiv, 1) := by decide +kernel
theorem dXM_divide_33 : decode cXM_divide 33 = .ok (.lreturn, 1) := by decide +kernel
theorem dXM_handle_0 : decode cXM_handle 0 = .ok (.aload_n 0, 1) := by decide +kernel
theorem dXM_handle_1 : decode cXM_handle 1 = .ok (.iconst 0, 1) := by decide +kernel
theorem dXM_handle_2 : decode cXM_handle 2 = .ok (.putfield 43, 3) := by decide +kernel
theorem dXM_handle_5 : decode cXM_handle 5 = .ok (.aload_n 0, 1) := by decide +kernel
theorem dXM_handle_6 : decode cXM_handle 6 = .ok (.getfield 78, 3) := by decide +kernel
theorem dXM_handle_9 : decode cXM_handle 9 = .ok (.ifCond .eq 18, 3) := by decide +kernel
theorem dXM_handle_12 : decode cXM_handle 12 = .ok (.iload_n 1, 1) := by decide +kernel
theorem dXM_handle_13 : decode cXM_handle 13 = .ok (.aload_n 0, 1) := by decide +kernel
theorem dXM_handle_14 : decode cXM_handle 14 = .ok (.getfield 78, 3) := by decide +kernel
theorem dXM_handle_17 : decode cXM_handle 17 = .ok (.if_icmp .ne 10, 3) := by decide +kernel
theorem dXM_handle_20 : decode cXM_handle 20 = .ok (.aload_n 0, 1) := by decide +kernel
theorem dXM_handle_21 : decode cXM_handle 21 = .ok (.getfield 81, 3) := by decide +kernel
theorem dXM_handle_24 : decode cXM_handle 24 = .ok (.ifCond .ne 10, 3) := by decide +kernel
theorem dXM_handle_27 : decode cXM_handle 27 = .ok (.aload_n 0, 1) := by decide +kernel
theorem dXM_handle_28 : decode cXM_handle 28 = .ok (.iconst 1, 1) := by decide +kernel
theorem dXM_handle_29 : decode cXM_handle 29 = .ok (.putfield 43, 3) := by decide +kernel
theorem dXM_handle_32 : decode cXM_handle 32 = .ok (.iconst 0, 1) := by decide +kernel
theorem dXM_handle_33 : decode cXM_handle 33 = .ok (.ireturn, 1) := by decide +kernel
theorem dXM_handle_34 : decode cXM_handle 34 = .ok (.iconst 0, 1) := by decide +kernel
theorem dXM_handle_35 : decode cXM_handle 35 = .ok (.istore_n 2, 1) := by decide +kernel
theorem dXM_handle_36 : decode cXM_handle 36 = .ok (.iconst 1, 1) := by decide +kernel
theorem dXM_handle_37 : decode cXM_handle 37 = .ok (.istore_n 3, 1) := by decide +kernel
theorem dXM_handle_38 : decode cXM_handle 38 = .ok (.iload_n 3, 1) := by decide +kernel
theorem dXM_handle_39 : decode cXM_handle 39 = .ok (.aload_n 0, 1) := by decide +kernel
theorem dXM_handle_40 : decode cXM_handle 40 = .ok (.getfield 46, 3) := by decide +kernel
theorem dXM_handle_43 : decode cXM_handle 43 = .ok (.if_icmp .gt 31, 3) := by decide +kernel
theorem dXM_handle_46 : decode cXM_handle 46 = .ok (.iload_n 2, 1) := by decide +kernel
theorem dXM_handle_47 : decode cXM_handle 47 = .ok (.aload_n 0, 1) := by decide +kernel
theorem dXM_handle_48 : decode cXM_handle 48 = .ok (.getfield 30, 3) := by decide +kernel
theorem dXM_handle_51 : decode cXM_handle 51 = .ok (.bipush 61, 2) := by decide +kernel
theorem dXM_handle_53 : decode cXM_handle 53 = .ok (.iload_n 3, 1) := by decide +kernel
theorem dXM_handle_54 : decode cXM_handle 54 = .ok (.imul, 1) := by decide +kernel
theorem dXM_handle_55 : decode cXM_handle 55 = .ok (.iload_n 1, 1) := by decide +kernel
theorem dXM_handle_56 : decode cXM_handle 56 = .ok (.iadd, 1) := by decide +kernel
theorem dXM_handle_57 : decode cXM_handle 57 = .ok (.baload, 1) := by decide +kernel
theorem dXM_handle_58 : decode cXM_handle 58 = .ok (.ifCond .eq 7, 3) := by decide +kernel
theorem dXM_handle_61 : decode cXM_handle 61 = .ok (.iconst 1, 1) := by decide +kernel
theorem dXM_handle_62 : decode cXM_handle 62 = .ok (.goto 4, 3) := by decide +kernel
theorem dXM_handle_65 : decode cXM_handle 65 = .ok (.iconst 0, 1) := by decide +kernel
theorem dXM_handle_66 : decode cXM_handle 66 = .ok (.iadd, 1) := by decide +kernel
theorem dXM_handle_67 : decode cXM_handle 67 = .ok (.istore_n 2, 1) := by decide +kernel
theorem dXM_handle_68 : decode cXM_handle 68 = .ok (.iinc 3 1, 3) := by decide +kernel
theorem dXM_handle_71 : decode cXM_handle 71 = .ok (.goto (-33), 3) := by decide +kernel
theorem dXM_handle_74 : decode cXM_handle 74 = .ok (.iload_n 2, 1) := by decide +kernel
theorem dXM_handle_75 : decode cXM_handle 75 = .ok (.ireturn, 1) := by decide +kernel
set_option maxRecDepth 20000 in
theorem ggXM_goes_XM_isClass : GoodIn wsXM_goes wsXM_isClass := goodIn_r _ [5, 6, 25, 26, 27, 28, 29, 30, 31, 32, 33, 34, 35, 36, 37, 38, 39, 40, 41, 42, 43] (by decide +kernel) (by decide +kernel)
set_option maxRecDepth 20000 in
theorem gXM_goes_XM_isClass : GoodIn wsXM_goes (wsV RXM 59 RXM yXM_isClass wsXM_isClass) := goodIn_app (goodIn_of _ (by decide +kernel)) ggXM_goes_XM_isClass
set_option maxRecDepth 20000 in
theorem ggXM_goes_XM_isRecord : GoodIn wsXM_goes wsXM_isRecord := goodIn_r _ [10, 11, 25, 26, 27, 28, 29, 30, 31, 32, 33, 34, 35, 36, 37, 38, 39, 40, 41, 42, 43] (by decide +kernel) (by decide +kernel)
set_option maxRecDepth 20000 in
theorem gXM_goes_XM_isRecord : GoodIn wsXM_goes (wsV RXM 63 RXM yXM_isRecord wsXM_isRecord) := goodIn_app (goodIn_of _ (by decide +kernel)) ggXM_goes_XM_isRecord
set_option maxRecDepth 20000 in
theorem ggXM_goes_XM_reckon : GoodIn wsXM_goes wsXM_reckon := goodIn_r _ [24, 13, 16, 25, 26, 27, 28, 29, 30, 31, 32, 33, 34, 35, 36, 37, 38, 39, 40, 41, 42, 43] (by decide +kernel) (by decide +kernel)
set_option maxRecDepth 20000 in
theorem gXM_goes_XM_reckon : GoodIn wsXM_goes (wsV RXM 70 RXM yXM_reckon wsXM_reckon) := goodIn_app (goodIn_of _ (by decide +kernel)) ggXM_goes_XM_reckon
set_option maxRecDepth 20000 in
theorem ggXM_run_XM_goes : GoodIn wsXM_run wsXM_goes := goodIn_r _ [6, 7, 8, 9, 5, 10, 11, 12, 13, 14, 15, 16, 17, 18, 19, 20, 21, 22, 23, 24, 25, 26, 27, 28, 29, 35, 36, 37, 38, 39, 40, 41, 42, 43, 44, 45, 46, 47, 48, 49, 50, 51, 52, 53] (by decide +kernel) (by decide +kernel)
set_option maxRecDepth 20000 in
theorem gXM_run_XM_goes : GoodIn wsXM_run (wsV RXM 74 RXM yXM_goes wsXM_goes) := goodIn_app (goodIn_of _ (by decide +kernel)) ggXM_run_XM_goes
set_option maxRecDepth 20000 in
theorem ggXM_resume_XM_isClass : GoodIn wsXM_resume wsXM_isClass := goodIn_r _ [6, 7, 39, 40, 41, 42, 43, 44, 45, 46, 47, 48, 49, 50, 51, 52, 53, 54, 55, 56, 57] (by decide +kernel) (by decide +kernel)
set_option maxRecDepth 20000 in
theorem gXM_resume_XM_isClass : GoodIn wsXM_resume (wsV RXM 59 RXM yXM_isClass wsXM_isClass) := goodIn_app (goodIn_of _ (by decide +kernel)) ggXM_resume_XM_isClass
set_option maxRecDepth 20000 in
theorem ggXM_resume_XM_run : GoodIn wsXM_resume wsXM_run := goodIn_r _ [13, 1, 14, 15, 16, 5, 17, 2, 3, 4, 6, 7, 18, 19, 20, 21, 8, 22, 23, 24, 25, 26, 27, 28, 29, 30, 31, 32, 33, 34, 35, 36, 9, 37, 38, 39, 40, 41, 42, 43, 44, 45, 46, 47, 48, 49, 50, 51, 52, 53, 54, 55, 56, 57] (by decide +kernel) (by decide +kernel)
set_option maxRecDepth 20000 in
theorem gXM_resume_XM_run : GoodIn wsXM_resume (wsV RXM 87 RXM yXM_run wsXM_run) := goodIn_app (goodIn_of _ (by decide +kernel)) ggXM_resume_XM_run
set_option maxRecDepth 20000 in
theorem ggXM_dry_XM_goes : GoodIn wsXM_dry wsXM_goes := goodIn_r _ [6, 7, 8, 9, 5, 10, 11, 12, 13, 14, 15, 16, 17, 18, 19, 20, 21, 22, 23, 24, 25, 26, 27, 28, 29, 30, 31, 32, 33, 34, 35, 36, 37, 38, 39, 40, 41, 42, 43, 44, 45, 46, 47, 48] (by decide +kernel) (by decide +kernel)
set_option maxRecDepth 20000 in
theorem gXM_dry_XM_goes : GoodIn wsXM_dry (wsV RXM 74 RXM yXM_goes wsXM_goes) := goodIn_app (goodIn_of _ (by decide +kernel)) ggXM_dry_XM_goes
set_option maxRecDepth 20000 in
theorem ggXM_value_XM_isRecord : GoodIn wsXM_value wsXM_isRecord := goodIn_r _ [6, 7, 9, 10, 11, 12, 13, 14, 15, 16, 17, 18, 19, 20, 21, 22, 23, 24, 25, 26, 27] (by decide +kernel) (by decide +kernel)
set_option maxRecDepth 20000 in
theorem gXM_value_XM_isRecord : GoodIn wsXM_value (wsV RXM 63 RXM yXM_isRecord wsXM_isRecord) := goodIn_app (goodIn_of _ (by decide +kernel)) ggXM_value_XM_isRecord
set_option maxRecDepth 20000 in
theorem ggXM_cell_XM_isClass : GoodIn wsXM_cell wsXM_isClass := goodIn_r _ [6, 7, 9, 10, 11, 12, 13, 14, 15, 16, 17, 18, 19, 20, 21, 22, 23, 24, 25, 26, 27] (by decide +kernel) (by decide +kernel)
set_option maxRecDepth 20000 in
theorem gXM_cell_XM_isClass : GoodIn wsXM_cell (wsV RXM 59 RXM yXM_isClass wsXM_isClass) := goodIn_app (goodIn_of _ (by decide +kernel)) ggXM_cell_XM_isClass
set_option maxRecDepth 20000 in
theorem ggXM_same_XM_isClass : GoodIn wsXM_same wsXM_isClass := goodIn_r _ [6, 7, 9, 10, 11, 12, 13, 14, 15, 16, 17, 18, 19, 20, 21, 22, 23, 24, 25, 26, 27] (by decide +kernel) (by decide +kernel)
set_option maxRecDepth 20000 in
theorem gXM_same_XM_isClass : GoodIn wsXM_same (wsV RXM 59 RXM yXM_isClass wsXM_isClass) := goodIn_app (goodIn_of _ (by decide +kernel)) ggXM_same_XM_isClass
set_option maxRecDepth 20000 in
theorem ggXM_divide_XM_isClass : GoodIn wsXM_divide wsXM_isClass := goodIn_r _ [6, 7, 8, 9, 10, 11, 12, 13, 14, 15, 16, 17, 18, 19, 20, 21, 22, 23, 24, 25, 26] (by decide +kernel) (by decide +kernel)
set_option maxRecDepth 20000 in
theorem gXM_divide_XM_isClass : GoodIn wsXM_divide (wsV RXM 59 RXM yXM_isClass wsXM_isClass) := goodIn_app (goodIn_of _ (by decide +kernel)) ggXM_divide_XM_isClass
abbrev vwC2 : List vw_C := [(RX0, TX0, 4), (RX1, TX1, 6), (RX2, TX2, 16), (RXM, TXM, 19)]
end
section
-- what the walks use beside the kit
theorem up_nI (f : Nat → Nat) (k v : Nat) : upd (fun q => nI (f q)) k (nI v) = fun q => nI (va_up f k v q) := by
  funext q
  by_cases h : q = k <;> simp [upd, va_up, h]
theorem max_nI {a b : Nat} (ha : a < 2 ^ 31) (hb : b < 2 ^ 31) : (if nI a < nI b then nI b else nI a) = nI (if a < b then b else a) := by
  by_cases h : a < b
  · rw [if_pos ((nI_ltI ha hb).mpr h), if_pos h]
  · rw [if_neg (mt (nI_ltI ha hb).mp h), if_neg h]
theorem i32_1 : (1 : Int32).toInt = 1 := rfl
theorem nat_of {x : Int32} {n : Nat} (h1 : ¬ x < 1) (h2 : ¬ nI n < x) (hn : n < 2 ^ 31) : ∃ j : Nat, 1 ≤ j ∧ j ≤ n ∧ x = nI j := by
  rw [Int32.lt_iff_toInt_lt] at h1 h2
  rw [nI_toInt hn] at h2
  rw [i32_1] at h1
  obtain ⟨j, hj, rfl⟩ := nI_of (x := x) (by rw [Int32.lt_iff_toInt_lt, Int32.toInt_zero]; omega)
  rw [nI_toInt hj] at h1 h2
  exact ⟨j, by omega, by omega, rfl⟩
theorem nat_of0 {x : Int32} {n : Nat} (h1 : ¬ x ≤ 0) (h2 : ¬ nI n < x) (hn : n < 2 ^ 31) : ∃ j : Nat, 1 ≤ j ∧ j ≤ n ∧ x = nI j := by
  refine nat_of (fun h => h1 ?_) h2 hn
  rw [Int32.lt_iff_toInt_lt, i32_1] at h
  rw [Int32.le_iff_toInt_le, Int32.toInt_zero]
  omega
theorem nat_lt {x : Int32} {n : Nat} (h1 : ¬ x < 0) (h2 : x < nI n) (hn : n < 2 ^ 31) : ∃ j : Nat, 0 ≤ j ∧ j < n ∧ x = nI j := by
  obtain ⟨j, hj, rfl⟩ := nI_of h1
  exact ⟨j, by omega, (nI_ltI hj hn).mp h2, rfl⟩
theorem nat_leC {x : Int32} {n : Nat} {c : Int32} (hc : c.toInt = n) (h1 : ¬ x < 0) (h2 : ¬ c < x) : ∃ j : Nat, 0 ≤ j ∧ j ≤ n ∧ x = nI j := by
  obtain ⟨j, hj, rfl⟩ := nI_of h1
  rw [Int32.lt_iff_toInt_lt, hc, nI_toInt hj] at h2
  exact ⟨j, by omega, by omega, rfl⟩
theorem nat_le3 {x : Int32} (h1 : ¬ x < 0) (h2 : ¬ 3 < x) : ∃ j : Nat, 0 ≤ j ∧ j ≤ 3 ∧ x = nI j := nat_leC (c := 3) rfl h1 h2
theorem nat_le99 {x : Int32} (h1 : ¬ x < 0) (h2 : ¬ 99 < x) : ∃ j : Nat, 0 ≤ j ∧ j ≤ 99 ∧ x = nI j := nat_leC (c := 99) rfl h1 h2
theorem nat_le2 {x : Int32} (h1 : ¬ x < 0) (h2 : x ≤ 2) : ∃ j : Nat, 0 ≤ j ∧ j ≤ 2 ∧ x = nI j := nat_leC (c := 2) rfl h1 (fun h => by
  rw [Int32.lt_iff_toInt_lt] at h
  rw [Int32.le_iff_toInt_le] at h2
  omega)
theorem nat_lt4 {x : Int32} (h1 : ¬ x < 0) (h2 : ¬ 4 ≤ x) : ∃ j : Nat, 0 ≤ j ∧ j ≤ 3 ∧ x = nI j := nat_leC (c := 3) rfl h1 (fun h => h2 (by
  rw [Int32.lt_iff_toInt_lt, show (3 : Int32).toInt = 3 from rfl] at h
  rw [Int32.le_iff_toInt_le, show (4 : Int32).toInt = 4 from rfl]
  omega))
theorem sw_3 (w : Int32) : w = 0 ∨ w = 1 ∨ w = 2 ∨ ((w.toInt < 0 ∨ 2 < w.toInt) ∧ ¬ w = 0 ∧ ¬ w = 1 ∧ ¬ w = 2) := by
  have e0 : (0 : Int32).toInt = 0 := rfl
  have e1 : (1 : Int32).toInt = 1 := rfl
  have e2 : (2 : Int32).toInt = 2 := rfl
  simp only [← Int32.toInt_inj, e0, e1, e2]
  omega
/-- the steps of a house -/
def stN (x : Int32) : Nat := if x < 1 then 1 else if 200 < x then 200 else x.toNatClampNeg
theorem stN_1 {x : Int32} (h : ¬ 1 ≤ x) : (1 : Int32) = nI (stN x) := by
  have h : x < 1 := Int32.not_le.mp h
  rw [stN, if_pos h]
  rfl
theorem stN_2 {x : Int32} (h : 1 ≤ x) (h2 : ¬ x ≤ 200) : (200 : Int32) = nI (stN x) := by
  rw [stN, if_neg (Int32.not_lt.mpr h), if_pos (Int32.not_le.mp h2)]
  rfl
theorem stN_3 {x : Int32} (h : 1 ≤ x) (h2 : x ≤ 200) : x = nI (stN x) := by
  rw [stN, if_neg (Int32.not_lt.mpr h), if_neg (Int32.not_lt.mpr h2)]
  obtain ⟨j, hj, rfl⟩ := nI_of (x := x) (fun h3 => by
    rw [Int32.lt_iff_toInt_lt, Int32.toInt_zero] at h3
    rw [Int32.le_iff_toInt_le, i32_1] at h
    omega)
  rw [nI_clamp hj]
theorem stN_B (x : Int32) : (if 1 < (if x < 200 then x else 200) then (if x < 200 then x else 200) else 1) = nI (stN x) := by
  have e2 : (200 : Int32).toInt = 200 := rfl
  by_cases h1 : 1 ≤ x
  · by_cases h2 : x ≤ 200
    · rw [← stN_3 h1 h2]
      have h1' := h1
      have h2' := h2
      rw [Int32.le_iff_toInt_le, i32_1] at h1'
      rw [Int32.le_iff_toInt_le, e2] at h2'
      by_cases h3 : x < 200
      · rw [if_pos h3]
        by_cases h4 : 1 < x
        · rw [if_pos h4]
        · rw [if_neg h4]
          rw [Int32.lt_iff_toInt_lt, i32_1] at h4
          rw [← Int32.toInt_inj, i32_1]
          omega
      · rw [if_neg h3, if_pos (by decide)]
        rw [Int32.lt_iff_toInt_lt, e2] at h3
        rw [← Int32.toInt_inj, e2]
        omega
    · rw [← stN_2 h1 h2]
      have h3 : ¬ x < 200 := fun h => h2 (by
        rw [Int32.lt_iff_toInt_lt] at h
        rw [Int32.le_iff_toInt_le]
        omega)
      rw [if_neg h3, if_pos (by decide)]
  · rw [← stN_1 h1]
    have h3 : x < 200 := by
      rw [Int32.le_iff_toInt_le, i32_1] at h1
      rw [Int32.lt_iff_toInt_lt, e2]
      omega
    rw [if_pos h3, if_neg (fun h => h1 (by
      rw [Int32.lt_iff_toInt_lt] at h
      rw [Int32.le_iff_toInt_le]
      omega))]
theorem stN_in (x : Int32) : 1 ≤ stN x ∧ stN x ≤ 200 := by
  have e2 : (200 : Int32).toInt = 200 := rfl
  unfold stN
  by_cases h1 : x < 1
  · rw [if_pos h1]; omega
  · rw [if_neg h1]
    by_cases h2 : 200 < x
    · rw [if_pos h2]; omega
    · rw [if_neg h2]
      rw [Int32.lt_iff_toInt_lt, i32_1] at h1
      rw [Int32.lt_iff_toInt_lt, e2] at h2
      obtain ⟨j, hj, rfl⟩ := nI_of (x := x) (fun h3 => by rw [Int32.lt_iff_toInt_lt, Int32.toInt_zero] at h3; omega)
      rw [nI_toInt hj] at h1 h2
      rw [nI_clamp hj]
      omega
section HN
variable {p : Program} {l : Launch} {e : Env} {R : Room} {s : State} {m : MethodId} {args : Array Value} {below : List Frame} {meth : Method} {c : Code} {H : Heap} {locs : List Loc} {cells slots : Nat} {Q : State → Prop}
variable {cc : ByteArray} {pc : Nat} {ls : Array Slot} {rest : List Value} {D : va_G} {cl : List vw_C} {A : Nat → Prop} {tys : List (ClassId × FieldType)} {ws : va_W} {H0 : Heap}
/-- an array is made; its class is the one that the tables' list has already -/
theorem hn_newa (hexec : p.tables.exec = Jvm.exec) (hb : c.code = cc) {atype : ArrayType} (harr : (Cond.arrayClass (newarray.typeOf atype)).before args s = true) {ty : FieldType} (hty : newarray.typeOf atype = ty) (hprim : ∀ cA : ClassId, va_RA s cA ty → s.vm.findClass ("[" ++ ty.toString) = some cA) (hK : va_K D cl tys s) (hP : va_P D cl ws H) (hD : va_D A ws) (hS : va_S A H0 H locs) (hA : ∀ q, H0.size ≤ q → A q)
    {t0 : Nat} {cA0 : ClassId} (ht : tys[t0]? = some (cA0, ty)) {n : Int32} {N' : Nat} {a0 : vp_A} (ha : ∀ cA : ClassId, vp_cell cA a0 = arrV cA N' (fun _ => defaultValue ty)) (hn : ¬ n < 0) (hN : n.toNatClampNeg = N') (hbytes : N' * componentBytes ty ≤ 536870912) (hcells : cells + 1 ≤ R.cells) (hslots : slots + N' ≤ R.slots) (hdg : decode cc pc = .ok (.newarray atype, 2))
    (kk : ∀ (q : Nat) (H1 : Heap), va_P D cl (ws ++ [(q, .inl (cA0, a0))]) H1 → va_D A (ws ++ [(q, .inl (cA0, a0))]) → va_S A H0 H1 locs →
      W p l e R s m args below meth c H1 locs (cells + 1) (slots + N') Q (F0 m (pc + 2) ls (.ref q :: rest))) : W p l e R s m args below meth c H locs cells slots Q (F0 m pc ls (.int n :: rest)) := by
  refine va_newa hexec hb harr hty hK hP hD hS hA ha hn hN hbytes hcells hslots hdg (fun q cA H1 hK1 hP1 hD1 hS1 => ?_)
  have h1 : s.vm.findClass ("[" ++ ty.toString) = some cA := hprim cA (hK1.2 tys.length (cA, ty) (by simp)).2
  have h2 : s.vm.findClass ("[" ++ ty.toString) = some cA0 := hprim cA0 (hK.2 t0 (cA0, ty) ht).2
  have h3 : cA = cA0 := Option.some.inj (h1.symm.trans h2)
  subst h3
  exact kk q H1 hP1 hD1 hS1
end HN
theorem hn_arr {args : Array Value} {s : State} {ty : FieldType} (h : (Cond.arrayClass ty).before args s = true) (hprim : ∀ cA : ClassId, s.vm.findClass ("[" ++ ty.toString) = some cA → va_RA s cA ty) : ∃ cA : ClassId, ArrOfT s cA ty ∧ va_RA s cA ty := by
  obtain ⟨cA, kA, comp, h1, h2, h3⟩ := Cond.arrayClass_spec h
  exact ⟨cA, fun n z => ⟨fun k h => (by cases h), kA, h2, comp, h3⟩, hprim cA h1⟩
theorem law_len {L k : Nat} (hL : L ≤ 3073) (hk : k ≤ 4000) : nI L - 6 < nI k ↔ L < k + 6 := by
  have h : (nI L - 6).toInt = (L : Int) - 6 := pk_sub_toInt (a := L) (b := 6) (by omega) (by omega)
  rw [Int32.lt_iff_toInt_lt, h, nI_toInt (by omega)]
  omega
-- what one class of the nest uses of another's: these words don't stand among those that a method hands on, so they are carried beside
def nestW : List Cond := [.methodLinkNest RX2 9 yX1_init "BatchClasses", .methodLinkNest RX2 18 yX0_init "BatchClasses", .methodLinkNest RX2 92 yX0_look "BatchClasses", .methodLinkNest RX2 105 yX1_countOthers "BatchClasses", .methodLinkNest RX2 124 yX0_note "BatchClasses", .methodLinkNest RX2 128 yX1_load "BatchClasses", .methodLinkNest RX2 132 yX1_perform "BatchClasses", .methodLinkNest RX2 135 yX1_store "BatchClasses"]
def nestF : List (Nat × String × String) := [(139, "cell", "J"), (143, "locks", "Z")]
def nwB (U : State) : Prop := (∀ w ∈ nestW, va_Nw w U) ∧ ∀ q ∈ nestF, va_Nw (.fieldLinkNest RX2 q.1 "BatchClasses$Trial" q.2.1 q.2.2 "BatchClasses") U
theorem nwB.warm {s U : State} (hW : s.WarmedH U.vm) (h : nwB s) : nwB U := by
  refine ⟨fun w hw => ?_, fun q hq => va_Nw.warmF hW (h.2 q hq)⟩
  have h1 := h.1 w hw
  simp only [nestW, List.mem_cons, List.not_mem_nil, or_false] at hw
  rcases hw with rfl | rfl | rfl | rfl | rfl | rfl | rfl | rfl <;> exact va_Nw.warmM hW h1
theorem nwB.blind {U : State} {g : JFrame} {mk : MethodId} {a : Array Value} (h : nwB U) : nwB (U.calling g mk a) := by
  refine ⟨fun w hw => ?_, fun q hq => va_tabs rfl rfl (h.2 q hq)⟩
  have h1 := h.1 w hw
  simp only [nestW, List.mem_cons, List.not_mem_nil, or_false] at hw
  rcases hw with rfl | rfl | rfl | rfl | rfl | rfl | rfl | rfl <;> exact va_tabs rfl rfl h1
end
section
def pT_swap (ta : Int64) (tb : Int64) : Int64 × Int64 :=
  (tb, ta)
set_option maxHeartbeats 4000000 in
set_option maxRecDepth 100000 in
/-- A and B change places -/
theorem k_X1_swap (l : Launch) (dC : Nat → ClassId) (dI : Nat → Nat → Nat) (cI cZ cJ : ClassId) (sz : Nat) (h1 : Nat) (ta tb tc td te : Int64) (tk : Int32) : Met l yX1_swap wsX1_swap ({ frames := 0, cells := 0, slots := 0, locals := 0 }) (va_Pc [.ref h1] (fun U => U.heap.size = sz ∧ va_P (dC, dI) vwC2 [(h1, .inr (1, [.long ta, .long tb, .long tc, .long td, .long te, .int tk]))] U.heap ∧ va_K (dC, dI) vwC2 [(cI, .int), (cZ, .boolean), (cJ, .long)] U ∧ va_D (fun _ => True) [(h1, .inr (1, [.long ta, .long tb, .long tc, .long td, .long te, .int tk]))])) (va_Qv (fun (u : Int64 × Int64) => u = pT_swap ta tb) (fun (u : Int64 × Int64) (t : State) => match u with | (ta', tb') => va_P (dC, dI) vwC2 [(h1, .inr (1, [.long ta', .long tb', .long tc, .long td, .long te, .int tk]))] t.heap ∧ va_K (dC, dI) vwC2 [(cI, .int), (cZ, .boolean), (cJ, .long)] t ∧ va_D (va_A [(h1, .inr (1, [.long ta, .long tb, .long tc, .long td, .long te, .int tk]))] sz) [(h1, .inr (1, [.long ta', .long tb', .long tc, .long td, .long te, .int tk]))]) (va_A [(h1, .inr (1, [.long ta, .long tb, .long tc, .long td, .long te, .int tk]))] sz)) 0 0 (va_A [(h1, .inr (1, [.long ta, .long tb, .long tc, .long td, .long te, .int tk]))] sz) := by
  refine Met.ofW (cc := cX1_swap) (maxL := 3) (ret := none) (by decide) rfl ?_
  intro p e s m args below meth c s₁ B hml hv
  obtain ⟨rfl, hsz, hP, hK, hD0⟩ := hv
  have hx := B.exec
  have hb := B.bytes
  have hr := B.returns
  have hts := atoms_spec (ws := wsX1_swap) B.pre
  have hown : s.vm.findClass RX1 = some m.cls := findClass_of_methodNamed B.named
  have hlocks := B.notSynchronized
  subst hsz
  have hD := hD0.self (sz := s.heap.size)
  generalize hAe : va_A [(h1, .inr (1, [.long ta, .long tb, .long tc, .long td, .long te, .int tk]))] s.heap.size = A at hD ⊢
  have hA : ∀ q : Nat, s.heap.size ≤ q → A q := fun q h => by rw [← hAe]; exact Or.inr h
  have hS : va_S A s.heap s.heap [] := va_S.rf
  have hP : va_P (dC, dI) vwC2 [(h1, .inr (1, [.long ta, .long tb, .long tc, .long td, .long te, .int tk]))] s.heap := hP
  have hl := lv_entry ([.ref h1]) (n := 3) (Nat.le_of_ble_eq_true rfl)
  rw [lg_entry_eq]
  generalize (lg_sl ([.ref h1]) ++ List.replicate (3 - (lg_sl ([.ref h1])).length) Slot.unset).toArray = ls at hl ⊢
  have hl : lv_has ls 3 [(0, .ref h1)] := hl
  refine lv_aload_n hx hb dX1_swap_0 rfl (lv_at hl 0 rfl) ?_
  refine va_get (D := (dC, dI)) (ci := 1) (v := .long ta) (C := RX1) (T := TX1) (N := 6) hx hb hts (by decide +kernel) hown hK hP 0 rfl rfl 0 (by decide) (hts (.fieldLink RX1 9 "BatchClasses$Trial" "a" "J") (by decide +kernel)) (fun _ h9 => h9) rfl dX1_swap_1 ?_
  refine lv_lstore_n (lv' := [(1, .long ta), (0, .ref h1)]) hx hb dX1_swap_4 rfl hl (by decide) rfl (fun ls hl => ?_)
  refine lv_aload_n hx hb dX1_swap_5 rfl (lv_at hl 1 rfl) ?_
  refine lv_aload_n hx hb dX1_swap_6 rfl (lv_at hl 1 rfl) ?_
  refine va_get (D := (dC, dI)) (ci := 1) (v := .long tb) (C := RX1) (T := TX1) (N := 6) hx hb hts (by decide +kernel) hown hK hP 0 rfl rfl 1 (by decide) (hts (.fieldLink RX1 15 "BatchClasses$Trial" "b" "J") (by decide +kernel)) (fun _ h9 => h9) rfl dX1_swap_7 ?_
  refine va_put (D := (dC, dI)) (ci := 1) (v := .long tb) (ty := .long) (C := RX1) (T := TX1) (N := 6) hx hb hts (by decide +kernel) tyX1 tyX1_ok nmX1 hown hK hP hD hS 0 rfl rfl 0 (by decide) (hts (.fieldLink RX1 9 "BatchClasses$Trial" "a" "J") (by decide +kernel)) (fun _ h9 => h9) rfl (by decide +kernel) rfl rfl (Nat.le_of_ble_eq_true rfl) dX1_swap_10 (fun H locs hP hD hS => ?_)
  have hP : va_P (dC, dI) vwC2 [(h1, .inr (1, [.long tb, .long tb, .long tc, .long td, .long te, .int tk]))] H := hP
  have hD : va_D A [(h1, .inr (1, [.long tb, .long tb, .long tc, .long td, .long te, .int tk]))] := hD
  refine lv_aload_n hx hb dX1_swap_13 rfl (lv_at hl 1 rfl) ?_
  refine lv_lload_n hx hb dX1_swap_14 rfl (lv_at hl 0 rfl) ?_
  refine va_put (D := (dC, dI)) (ci := 1) (v := .long ta) (ty := .long) (C := RX1) (T := TX1) (N := 6) hx hb hts (by decide +kernel) tyX1 tyX1_ok nmX1 hown hK hP hD hS 0 rfl rfl 1 (by decide) (hts (.fieldLink RX1 15 "BatchClasses$Trial" "b" "J") (by decide +kernel)) (fun _ h9 => h9) rfl (by decide +kernel) rfl rfl (Nat.le_of_ble_eq_true rfl) dX1_swap_15 (fun H locs hP hD hS => ?_)
  have hP : va_P (dC, dI) vwC2 [(h1, .inr (1, [.long tb, .long ta, .long tc, .long td, .long te, .int tk]))] H := hP
  have hD : va_D A [(h1, .inr (1, [.long tb, .long ta, .long tc, .long td, .long te, .int tk]))] := hD
  exact W.vret hx hb hr (fun t ht hW => ⟨⟨(tb, ta), rfl, by first | (simp only [pT_swap]; done) | (simp only [pT_swap]; rfl) | rfl, by rw [ht]; exact hP, va_K.moved hW.alike hK, hD⟩, hS.F ht⟩) hS.2.2 dX1_swap_18
def pT_load (fi : Nat → Int64) (bs : (Nat)) (lc : Int64) : Int64 × Int64 × Int64 × Int64 × Int64 × Int32 :=
  ((fi bs), (fi (bs + 1)), (fi (bs + 2)), (fi (bs + 3)), lc, 0)
set_option maxHeartbeats 4000000 in
set_option maxRecDepth 100000 in
theorem k_X1_load (l : Launch) (dC : Nat → ClassId) (dI : Nat → Nat → Nat) (cI cZ cJ : ClassId) (sz : Nat) (h1 a6 : Nat) (ta tb tc td te : Int64) (tk : Int32) (fi : Nat → Int64) (bs : (Nat)) (lc : Int64) (hbs : bs + 3 < 240) : Met l yX1_load wsX1_load ({ frames := 0, cells := 0, slots := 0, locals := 0 }) (va_Pc [.ref h1, .ref a6, .int (nI bs), .long lc] (fun U => U.heap.size = sz ∧ va_P (dC, dI) vwC2 [(h1, .inr (1, [.long ta, .long tb, .long tc, .long td, .long te, .int tk])), (a6, .inl (cJ, 240, .inr (.inl fi)))] U.heap ∧ va_K (dC, dI) vwC2 [(cI, .int), (cZ, .boolean), (cJ, .long)] U ∧ va_D (fun _ => True) [(h1, .inr (1, [.long ta, .long tb, .long tc, .long td, .long te, .int tk])), (a6, .inl (cJ, 240, .inr (.inl fi)))])) (va_Qv (fun (u : Int64 × Int64 × Int64 × Int64 × Int64 × Int32) => u = pT_load fi bs lc) (fun (u : Int64 × Int64 × Int64 × Int64 × Int64 × Int32) (t : State) => match u with | (ta', tb', tc', td', te', tk') => va_P (dC, dI) vwC2 [(h1, .inr (1, [.long ta', .long tb', .long tc', .long td', .long te', .int tk'])), (a6, .inl (cJ, 240, .inr (.inl fi)))] t.heap ∧ va_K (dC, dI) vwC2 [(cI, .int), (cZ, .boolean), (cJ, .long)] t ∧ va_D (va_A [(h1, .inr (1, [.long ta, .long tb, .long tc, .long td, .long te, .int tk])), (a6, .inl (cJ, 240, .inr (.inl fi)))] sz) [(h1, .inr (1, [.long ta', .long tb', .long tc', .long td', .long te', .int tk'])), (a6, .inl (cJ, 240, .inr (.inl fi)))]) (va_A [(h1, .inr (1, [.long ta, .long tb, .long tc, .long td, .long te, .int tk])), (a6, .inl (cJ, 240, .inr (.inl fi)))] sz)) 0 0 (va_A [(h1, .inr (1, [.long ta, .long tb, .long tc, .long td, .long te, .int tk])), (a6, .inl (cJ, 240, .inr (.inl fi)))] sz) := by
  refine Met.ofW (cc := cX1_load) (maxL := 5) (ret := none) (by decide) rfl ?_
  intro p e s m args below meth c s₁ B hml hv
  obtain ⟨rfl, hsz, hP, hK, hD0⟩ := hv
  have hx := B.exec
  have hb := B.bytes
  have hr := B.returns
  have hts := atoms_spec (ws := wsX1_load) B.pre
  have hown : s.vm.findClass RX1 = some m.cls := findClass_of_methodNamed B.named
  have hlocks := B.notSynchronized
  subst hsz
  have hD := hD0.self (sz := s.heap.size)
  generalize hAe : va_A [(h1, .inr (1, [.long ta, .long tb, .long tc, .long td, .long te, .int tk])), (a6, .inl (cJ, 240, .inr (.inl fi)))] s.heap.size = A at hD ⊢
  have hA : ∀ q : Nat, s.heap.size ≤ q → A q := fun q h => by rw [← hAe]; exact Or.inr h
  have hS : va_S A s.heap s.heap [] := va_S.rf
  have hP : va_P (dC, dI) vwC2 [(h1, .inr (1, [.long ta, .long tb, .long tc, .long td, .long te, .int tk])), (a6, .inl (cJ, 240, .inr (.inl fi)))] s.heap := hP
  have hl := lv_entry ([.ref h1, .ref a6, .int (nI bs), .long lc]) (n := 5) (Nat.le_of_ble_eq_true rfl)
  rw [lg_entry_eq]
  generalize (lg_sl ([.ref h1, .ref a6, .int (nI bs), .long lc]) ++ List.replicate (5 - (lg_sl ([.ref h1, .ref a6, .int (nI bs), .long lc])).length) Slot.unset).toArray = ls at hl ⊢
  have hl : lv_has ls 5 [(0, .ref h1), (1, .ref a6), (2, .int (nI bs)), (3, .long lc)] := hl
  refine lv_aload_n hx hb dX1_load_0 rfl (lv_at hl 0 rfl) ?_
  refine lv_aload_n hx hb dX1_load_1 rfl (lv_at hl 1 rfl) ?_
  refine lv_iload_n hx hb dX1_load_2 rfl (lv_at hl 2 rfl) ?_
  refine va_lald hx hb hK hP 1 2 rfl rfl (vp_in_nI (by omega) (by omega)) dX1_load_3 ?_
  refine lv_topl (fun z_3 ez_3 => ?_)
  obtain rfl : z_3 = fi bs := ez_3.trans (by rw [nI_clamp (n := bs) (by omega)])
  refine va_put (D := (dC, dI)) (ci := 1) (v := .long (fi bs)) (ty := .long) (C := RX1) (T := TX1) (N := 6) hx hb hts (by decide +kernel) tyX1 tyX1_ok nmX1 hown hK hP hD hS 0 rfl rfl 0 (by decide) (hts (.fieldLink RX1 9 "BatchClasses$Trial" "a" "J") (by decide +kernel)) (fun _ h9 => h9) rfl (by decide +kernel) rfl rfl (Nat.le_of_ble_eq_true rfl) dX1_load_4 (fun H locs hP hD hS => ?_)
  have hP : va_P (dC, dI) vwC2 [(h1, .inr (1, [.long (fi bs), .long tb, .long tc, .long td, .long te, .int tk])), (a6, .inl (cJ, 240, .inr (.inl fi)))] H := hP
  have hD : va_D A [(h1, .inr (1, [.long (fi bs), .long tb, .long tc, .long td, .long te, .int tk])), (a6, .inl (cJ, 240, .inr (.inl fi)))] := hD
  refine lv_aload_n hx hb dX1_load_7 rfl (lv_at hl 0 rfl) ?_
  refine lv_aload_n hx hb dX1_load_8 rfl (lv_at hl 1 rfl) ?_
  refine lv_iload_n hx hb dX1_load_9 rfl (lv_at hl 2 rfl) ?_
  refine lv_iconst (v := 1) hx hb dX1_load_10 (by decide) ?_
  refine lv_iadd hx hb dX1_load_11 ?_
  refine lv_topi (fun z_11 ez_11 => ?_)
  obtain rfl : z_11 = nI (bs + 1) := ez_11.trans (nI_add bs 1)
  refine va_lald hx hb hK hP 1 2 rfl rfl (vp_in_nI (by omega) (by omega)) dX1_load_12 ?_
  refine lv_topl (fun z_12 ez_12 => ?_)
  obtain rfl : z_12 = fi (bs + 1) := ez_12.trans (by rw [nI_clamp (n := (bs + 1)) (by omega)])
  refine va_put (D := (dC, dI)) (ci := 1) (v := .long (fi (bs + 1))) (ty := .long) (C := RX1) (T := TX1) (N := 6) hx hb hts (by decide +kernel) tyX1 tyX1_ok nmX1 hown hK hP hD hS 0 rfl rfl 1 (by decide) (hts (.fieldLink RX1 15 "BatchClasses$Trial" "b" "J") (by decide +kernel)) (fun _ h9 => h9) rfl (by decide +kernel) rfl rfl (Nat.le_of_ble_eq_true rfl) dX1_load_13 (fun H locs hP hD hS => ?_)
  have hP : va_P (dC, dI) vwC2 [(h1, .inr (1, [.long (fi bs), .long (fi (bs + 1)), .long tc, .long td, .long te, .int tk])), (a6, .inl (cJ, 240, .inr (.inl fi)))] H := hP
  have hD : va_D A [(h1, .inr (1, [.long (fi bs), .long (fi (bs + 1)), .long tc, .long td, .long te, .int tk])), (a6, .inl (cJ, 240, .inr (.inl fi)))] := hD
  refine lv_aload_n hx hb dX1_load_16 rfl (lv_at hl 0 rfl) ?_
  refine lv_aload_n hx hb dX1_load_17 rfl (lv_at hl 1 rfl) ?_
  refine lv_iload_n hx hb dX1_load_18 rfl (lv_at hl 2 rfl) ?_
  refine lv_iconst (v := 2) hx hb dX1_load_19 (by decide) ?_
  refine lv_iadd hx hb dX1_load_20 ?_
  refine lv_topi (fun z_20 ez_20 => ?_)
  obtain rfl : z_20 = nI (bs + 2) := ez_20.trans (nI_add bs 2)
  refine va_lald hx hb hK hP 1 2 rfl rfl (vp_in_nI (by omega) (by omega)) dX1_load_21 ?_
  refine lv_topl (fun z_21 ez_21 => ?_)
  obtain rfl : z_21 = fi (bs + 2) := ez_21.trans (by rw [nI_clamp (n := (bs + 2)) (by omega)])
  refine va_put (D := (dC, dI)) (ci := 1) (v := .long (fi (bs + 2))) (ty := .long) (C := RX1) (T := TX1) (N := 6) hx hb hts (by decide +kernel) tyX1 tyX1_ok nmX1 hown hK hP hD hS 0 rfl rfl 2 (by decide) (hts (.fieldLink RX1 18 "BatchClasses$Trial" "c" "J") (by decide +kernel)) (fun _ h9 => h9) rfl (by decide +kernel) rfl rfl (Nat.le_of_ble_eq_true rfl) dX1_load_22 (fun H locs hP hD hS => ?_)
  have hP : va_P (dC, dI) vwC2 [(h1, .inr (1, [.long (fi bs), .long (fi (bs + 1)), .long (fi (bs + 2)), .long td, .long te, .int tk])), (a6, .inl (cJ, 240, .inr (.inl fi)))] H := hP
  have hD : va_D A [(h1, .inr (1, [.long (fi bs), .long (fi (bs + 1)), .long (fi (bs + 2)), .long td, .long te, .int tk])), (a6, .inl (cJ, 240, .inr (.inl fi)))] := hD
  refine lv_aload_n hx hb dX1_load_25 rfl (lv_at hl 0 rfl) ?_
  refine lv_aload_n hx hb dX1_load_26 rfl (lv_at hl 1 rfl) ?_
  refine lv_iload_n hx hb dX1_load_27 rfl (lv_at hl 2 rfl) ?_
  refine lv_iconst (v := 3) hx hb dX1_load_28 (by decide) ?_
  refine lv_iadd hx hb dX1_load_29 ?_
  refine lv_topi (fun z_29 ez_29 => ?_)
  obtain rfl : z_29 = nI (bs + 3) := ez_29.trans (nI_add bs 3)
  refine va_lald hx hb hK hP 1 2 rfl rfl (vp_in_nI (by omega) (by omega)) dX1_load_30 ?_
  refine lv_topl (fun z_30 ez_30 => ?_)
  obtain rfl : z_30 = fi (bs + 3) := ez_30.trans (by rw [nI_clamp (n := (bs + 3)) (by omega)])
  refine va_put (D := (dC, dI)) (ci := 1) (v := .long (fi (bs + 3))) (ty := .long) (C := RX1) (T := TX1) (N := 6) hx hb hts (by decide +kernel) tyX1 tyX1_ok nmX1 hown hK hP hD hS 0 rfl rfl 3 (by decide) (hts (.fieldLink RX1 21 "BatchClasses$Trial" "d" "J") (by decide +kernel)) (fun _ h9 => h9) rfl (by decide +kernel) rfl rfl (Nat.le_of_ble_eq_true rfl) dX1_load_31 (fun H locs hP hD hS => ?_)
  have hP : va_P (dC, dI) vwC2 [(h1, .inr (1, [.long (fi bs), .long (fi (bs + 1)), .long (fi (bs + 2)), .long (fi (bs + 3)), .long te, .int tk])), (a6, .inl (cJ, 240, .inr (.inl fi)))] H := hP
  have hD : va_D A [(h1, .inr (1, [.long (fi bs), .long (fi (bs + 1)), .long (fi (bs + 2)), .long (fi (bs + 3)), .long te, .int tk])), (a6, .inl (cJ, 240, .inr (.inl fi)))] := hD
  refine lv_aload_n hx hb dX1_load_34 rfl (lv_at hl 0 rfl) ?_
  refine lv_lload_n hx hb dX1_load_35 rfl (lv_at hl 3 rfl) ?_
  refine va_put (D := (dC, dI)) (ci := 1) (v := .long lc) (ty := .long) (C := RX1) (T := TX1) (N := 6) hx hb hts (by decide +kernel) tyX1 tyX1_ok nmX1 hown hK hP hD hS 0 rfl rfl 4 (by decide) (hts (.fieldLink RX1 24 "BatchClasses$Trial" "cell" "J") (by decide +kernel)) (fun _ h9 => h9) rfl (by decide +kernel) rfl rfl (Nat.le_of_ble_eq_true rfl) dX1_load_36 (fun H locs hP hD hS => ?_)
  have hP : va_P (dC, dI) vwC2 [(h1, .inr (1, [.long (fi bs), .long (fi (bs + 1)), .long (fi (bs + 2)), .long (fi (bs + 3)), .long lc, .int tk])), (a6, .inl (cJ, 240, .inr (.inl fi)))] H := hP
  have hD : va_D A [(h1, .inr (1, [.long (fi bs), .long (fi (bs + 1)), .long (fi (bs + 2)), .long (fi (bs + 3)), .long lc, .int tk])), (a6, .inl (cJ, 240, .inr (.inl fi)))] := hD
  refine lv_aload_n hx hb dX1_load_39 rfl (lv_at hl 0 rfl) ?_
  refine lv_iconst (v := 0) hx hb dX1_load_40 (by decide) ?_
  refine va_put (D := (dC, dI)) (ci := 1) (v := .int 0) (ty := .boolean) (C := RX1) (T := TX1) (N := 6) hx hb hts (by decide +kernel) tyX1 tyX1_ok nmX1 hown hK hP hD hS 0 rfl rfl 5 (by decide) (hts (.fieldLink RX1 27 "BatchClasses$Trial" "locks" "Z") (by decide +kernel)) (fun _ h9 => h9) rfl (by decide +kernel) rfl rfl (Nat.le_of_ble_eq_true rfl) dX1_load_41 (fun H locs hP hD hS => ?_)
  have hP : va_P (dC, dI) vwC2 [(h1, .inr (1, [.long (fi bs), .long (fi (bs + 1)), .long (fi (bs + 2)), .long (fi (bs + 3)), .long lc, .int 0])), (a6, .inl (cJ, 240, .inr (.inl fi)))] H := hP
  have hD : va_D A [(h1, .inr (1, [.long (fi bs), .long (fi (bs + 1)), .long (fi (bs + 2)), .long (fi (bs + 3)), .long lc, .int 0])), (a6, .inl (cJ, 240, .inr (.inl fi)))] := hD
  exact W.vret hx hb hr (fun t ht hW => ⟨⟨((fi bs), (fi (bs + 1)), (fi (bs + 2)), (fi (bs + 3)), lc, 0), rfl, by first | (simp only [pT_load]; done) | (simp only [pT_load]; rfl) | rfl, by rw [ht]; exact hP, va_K.moved hW.alike hK, hD⟩, hS.F ht⟩) hS.2.2 dX1_load_44
def pT_store (ta : Int64) (tb : Int64) (tc : Int64) (td : Int64) (fi : Nat → Int64) (bs : (Nat)) : (Nat → Int64) :=
  (vp_updL (vp_updL (vp_updL (vp_updL fi bs ta) (bs + 1) tb) (bs + 2) tc) (bs + 3) td)
set_option maxHeartbeats 4000000 in
set_option maxRecDepth 100000 in
theorem k_X1_store (l : Launch) (dC : Nat → ClassId) (dI : Nat → Nat → Nat) (cI cZ cJ : ClassId) (sz : Nat) (h1 a6 : Nat) (ta tb tc td te : Int64) (tk : Int32) (fi : Nat → Int64) (bs : (Nat)) (hbs : bs + 3 < 240) : Met l yX1_store wsX1_store ({ frames := 0, cells := 0, slots := 0, locals := 0 }) (va_Pc [.ref h1, .ref a6, .int (nI bs)] (fun U => U.heap.size = sz ∧ va_P (dC, dI) vwC2 [(h1, .inr (1, [.long ta, .long tb, .long tc, .long td, .long te, .int tk])), (a6, .inl (cJ, 240, .inr (.inl fi)))] U.heap ∧ va_K (dC, dI) vwC2 [(cI, .int), (cZ, .boolean), (cJ, .long)] U ∧ va_D (fun _ => True) [(h1, .inr (1, [.long ta, .long tb, .long tc, .long td, .long te, .int tk])), (a6, .inl (cJ, 240, .inr (.inl fi)))])) (va_Qv (fun (u : (Nat → Int64)) => u = pT_store ta tb tc td fi bs) (fun (u : (Nat → Int64)) (t : State) => match u with | fi' => va_P (dC, dI) vwC2 [(h1, .inr (1, [.long ta, .long tb, .long tc, .long td, .long te, .int tk])), (a6, .inl (cJ, 240, .inr (.inl fi')))] t.heap ∧ va_K (dC, dI) vwC2 [(cI, .int), (cZ, .boolean), (cJ, .long)] t ∧ va_D (va_A [(h1, .inr (1, [.long ta, .long tb, .long tc, .long td, .long te, .int tk])), (a6, .inl (cJ, 240, .inr (.inl fi)))] sz) [(h1, .inr (1, [.long ta, .long tb, .long tc, .long td, .long te, .int tk])), (a6, .inl (cJ, 240, .inr (.inl fi')))]) (va_A [(h1, .inr (1, [.long ta, .long tb, .long tc, .long td, .long te, .int tk])), (a6, .inl (cJ, 240, .inr (.inl fi)))] sz)) 0 0 (va_A [(h1, .inr (1, [.long ta, .long tb, .long tc, .long td, .long te, .int tk])), (a6, .inl (cJ, 240, .inr (.inl fi)))] sz) := by
  refine Met.ofW (cc := cX1_store) (maxL := 3) (ret := none) (by decide) rfl ?_
  intro p e s m args below meth c s₁ B hml hv
  obtain ⟨rfl, hsz, hP, hK, hD0⟩ := hv
  have hx := B.exec
  have hb := B.bytes
  have hr := B.returns
  have hts := atoms_spec (ws := wsX1_store) B.pre
  have hown : s.vm.findClass RX1 = some m.cls := findClass_of_methodNamed B.named
  have hlocks := B.notSynchronized
  subst hsz
  have hD := hD0.self (sz := s.heap.size)
  generalize hAe : va_A [(h1, .inr (1, [.long ta, .long tb, .long tc, .long td, .long te, .int tk])), (a6, .inl (cJ, 240, .inr (.inl fi)))] s.heap.size = A at hD ⊢
  have hA : ∀ q : Nat, s.heap.size ≤ q → A q := fun q h => by rw [← hAe]; exact Or.inr h
  have hS : va_S A s.heap s.heap [] := va_S.rf
  have hP : va_P (dC, dI) vwC2 [(h1, .inr (1, [.long ta, .long tb, .long tc, .long td, .long te, .int tk])), (a6, .inl (cJ, 240, .inr (.inl fi)))] s.heap := hP
  have hl := lv_entry ([.ref h1, .ref a6, .int (nI bs)]) (n := 3) (Nat.le_of_ble_eq_true rfl)
  rw [lg_entry_eq]
  generalize (lg_sl ([.ref h1, .ref a6, .int (nI bs)]) ++ List.replicate (3 - (lg_sl ([.ref h1, .ref a6, .int (nI bs)])).length) Slot.unset).toArray = ls at hl ⊢
  have hl : lv_has ls 3 [(0, .ref h1), (1, .ref a6), (2, .int (nI bs))] := hl
  refine lv_aload_n hx hb dX1_store_0 rfl (lv_at hl 1 rfl) ?_
  refine lv_iload_n hx hb dX1_store_1 rfl (lv_at hl 2 rfl) ?_
  refine lv_aload_n hx hb dX1_store_2 rfl (lv_at hl 0 rfl) ?_
  refine va_get (D := (dC, dI)) (ci := 1) (v := .long ta) (C := RX1) (T := TX1) (N := 6) hx hb hts (by decide +kernel) hown hK hP 0 rfl rfl 0 (by decide) (hts (.fieldLink RX1 9 "BatchClasses$Trial" "a" "J") (by decide +kernel)) (fun _ h9 => h9) rfl dX1_store_3 ?_
  refine va_last hx hb hK hP hD hS 1 2 rfl rfl (vp_in_nI (by omega) (by omega)) dX1_store_6 (fun H locs hP hD hS => ?_)
  rw [nI_clamp (n := bs) (by omega)] at hP hD
  have hP : va_P (dC, dI) vwC2 [(h1, .inr (1, [.long ta, .long tb, .long tc, .long td, .long te, .int tk])), (a6, .inl (cJ, 240, .inr (.inl (vp_updL fi bs ta))))] H := hP
  have hD : va_D A [(h1, .inr (1, [.long ta, .long tb, .long tc, .long td, .long te, .int tk])), (a6, .inl (cJ, 240, .inr (.inl (vp_updL fi bs ta))))] := hD
  refine lv_aload_n hx hb dX1_store_7 rfl (lv_at hl 1 rfl) ?_
  refine lv_iload_n hx hb dX1_store_8 rfl (lv_at hl 2 rfl) ?_
  refine lv_iconst (v := 1) hx hb dX1_store_9 (by decide) ?_
  refine lv_iadd hx hb dX1_store_10 ?_
  refine lv_topi (fun z_10 ez_10 => ?_)
  obtain rfl : z_10 = nI (bs + 1) := ez_10.trans (nI_add bs 1)
  refine lv_aload_n hx hb dX1_store_11 rfl (lv_at hl 0 rfl) ?_
  refine va_get (D := (dC, dI)) (ci := 1) (v := .long tb) (C := RX1) (T := TX1) (N := 6) hx hb hts (by decide +kernel) hown hK hP 0 rfl rfl 1 (by decide) (hts (.fieldLink RX1 15 "BatchClasses$Trial" "b" "J") (by decide +kernel)) (fun _ h9 => h9) rfl dX1_store_12 ?_
  refine va_last hx hb hK hP hD hS 1 2 rfl rfl (vp_in_nI (by omega) (by omega)) dX1_store_15 (fun H locs hP hD hS => ?_)
  rw [nI_clamp (n := (bs + 1)) (by omega)] at hP hD
  have hP : va_P (dC, dI) vwC2 [(h1, .inr (1, [.long ta, .long tb, .long tc, .long td, .long te, .int tk])), (a6, .inl (cJ, 240, .inr (.inl (vp_updL (vp_updL fi bs ta) (bs + 1) tb))))] H := hP
  have hD : va_D A [(h1, .inr (1, [.long ta, .long tb, .long tc, .long td, .long te, .int tk])), (a6, .inl (cJ, 240, .inr (.inl (vp_updL (vp_updL fi bs ta) (bs + 1) tb))))] := hD
  refine lv_aload_n hx hb dX1_store_16 rfl (lv_at hl 1 rfl) ?_
  refine lv_iload_n hx hb dX1_store_17 rfl (lv_at hl 2 rfl) ?_
  refine lv_iconst (v := 2) hx hb dX1_store_18 (by decide) ?_
  refine lv_iadd hx hb dX1_store_19 ?_
  refine lv_topi (fun z_19 ez_19 => ?_)
  obtain rfl : z_19 = nI (bs + 2) := ez_19.trans (nI_add bs 2)
  refine lv_aload_n hx hb dX1_store_20 rfl (lv_at hl 0 rfl) ?_
  refine va_get (D := (dC, dI)) (ci := 1) (v := .long tc) (C := RX1) (T := TX1) (N := 6) hx hb hts (by decide +kernel) hown hK hP 0 rfl rfl 2 (by decide) (hts (.fieldLink RX1 18 "BatchClasses$Trial" "c" "J") (by decide +kernel)) (fun _ h9 => h9) rfl dX1_store_21 ?_
  refine va_last hx hb hK hP hD hS 1 2 rfl rfl (vp_in_nI (by omega) (by omega)) dX1_store_24 (fun H locs hP hD hS => ?_)
  rw [nI_clamp (n := (bs + 2)) (by omega)] at hP hD
  have hP : va_P (dC, dI) vwC2 [(h1, .inr (1, [.long ta, .long tb, .long tc, .long td, .long te, .int tk])), (a6, .inl (cJ, 240, .inr (.inl (vp_updL (vp_updL (vp_updL fi bs ta) (bs + 1) tb) (bs + 2) tc))))] H := hP
  have hD : va_D A [(h1, .inr (1, [.long ta, .long tb, .long tc, .long td, .long te, .int tk])), (a6, .inl (cJ, 240, .inr (.inl (vp_updL (vp_updL (vp_updL fi bs ta) (bs + 1) tb) (bs + 2) tc))))] := hD
  refine lv_aload_n hx hb dX1_store_25 rfl (lv_at hl 1 rfl) ?_
  refine lv_iload_n hx hb dX1_store_26 rfl (lv_at hl 2 rfl) ?_
  refine lv_iconst (v := 3) hx hb dX1_store_27 (by decide) ?_
  refine lv_iadd hx hb dX1_store_28 ?_
  refine lv_topi (fun z_28 ez_28 => ?_)
  obtain rfl : z_28 = nI (bs + 3) := ez_28.trans (nI_add bs 3)
  refine lv_aload_n hx hb dX1_store_29 rfl (lv_at hl 0 rfl) ?_
  refine va_get (D := (dC, dI)) (ci := 1) (v := .long td) (C := RX1) (T := TX1) (N := 6) hx hb hts (by decide +kernel) hown hK hP 0 rfl rfl 3 (by decide) (hts (.fieldLink RX1 21 "BatchClasses$Trial" "d" "J") (by decide +kernel)) (fun _ h9 => h9) rfl dX1_store_30 ?_
  refine va_last hx hb hK hP hD hS 1 2 rfl rfl (vp_in_nI (by omega) (by omega)) dX1_store_33 (fun H locs hP hD hS => ?_)
  rw [nI_clamp (n := (bs + 3)) (by omega)] at hP hD
  have hP : va_P (dC, dI) vwC2 [(h1, .inr (1, [.long ta, .long tb, .long tc, .long td, .long te, .int tk])), (a6, .inl (cJ, 240, .inr (.inl (vp_updL (vp_updL (vp_updL (vp_updL fi bs ta) (bs + 1) tb) (bs + 2) tc) (bs + 3) td))))] H := hP
  have hD : va_D A [(h1, .inr (1, [.long ta, .long tb, .long tc, .long td, .long te, .int tk])), (a6, .inl (cJ, 240, .inr (.inl (vp_updL (vp_updL (vp_updL (vp_updL fi bs ta) (bs + 1) tb) (bs + 2) tc) (bs + 3) td))))] := hD
  exact W.vret hx hb hr (fun t ht hW => ⟨⟨((vp_updL (vp_updL (vp_updL (vp_updL fi bs ta) (bs + 1) tb) (bs + 2) tc) (bs + 3) td)), rfl, by first | (simp only [pT_store]; done) | (simp only [pT_store]; rfl) | rfl, by rw [ht]; exact hP, va_K.moved hW.alike hK, hD⟩, hS.F ht⟩) hS.2.2 dX1_store_34
def pT_count (ta : Int64) (tb : Int64) (tc : Int64) (td : Int64) (fi : Nat → Int64) (bs : Nat) : Int32 := nI ((if ta = fi bs then 0 else 1) + (if tb = fi (bs + 1) then 0 else 1) + (if tc = fi (bs + 2) then 0 else 1) + (if td = fi (bs + 3) then 0 else 1))
set_option maxHeartbeats 4000000 in
set_option maxRecDepth 100000 in
theorem k_X1_countOthers (l : Launch) (dC : Nat → ClassId) (dI : Nat → Nat → Nat) (cI cZ cJ : ClassId) (sz : Nat) (h1 a6 : Nat) (ta tb tc td te : Int64) (tk : Int32) (fi : Nat → Int64) (bs : (Nat)) (hbs : bs + 3 < 240) : Met l yX1_countOthers wsX1_countOthers ({ frames := 0, cells := 0, slots := 0, locals := 0 }) (va_Pc [.ref h1, .ref a6, .int (nI bs)] (fun U => U.heap.size = sz ∧ va_P (dC, dI) vwC2 [(h1, .inr (1, [.long ta, .long tb, .long tc, .long td, .long te, .int tk])), (a6, .inl (cJ, 240, .inr (.inl fi)))] U.heap ∧ va_K (dC, dI) vwC2 [(cI, .int), (cZ, .boolean), (cJ, .long)] U ∧ va_D (fun _ => True) [(h1, .inr (1, [.long ta, .long tb, .long tc, .long td, .long te, .int tk])), (a6, .inl (cJ, 240, .inr (.inl fi)))])) (va_Qi (fun (r : Int32) (_ : Unit) => r = pT_count ta tb tc td fi bs) (fun (_ : Unit) (t : State) => va_P (dC, dI) vwC2 [(h1, .inr (1, [.long ta, .long tb, .long tc, .long td, .long te, .int tk])), (a6, .inl (cJ, 240, .inr (.inl fi)))] t.heap ∧ va_K (dC, dI) vwC2 [(cI, .int), (cZ, .boolean), (cJ, .long)] t ∧ va_D (va_A [(h1, .inr (1, [.long ta, .long tb, .long tc, .long td, .long te, .int tk])), (a6, .inl (cJ, 240, .inr (.inl fi)))] sz) [(h1, .inr (1, [.long ta, .long tb, .long tc, .long td, .long te, .int tk])), (a6, .inl (cJ, 240, .inr (.inl fi)))]) (va_A [(h1, .inr (1, [.long ta, .long tb, .long tc, .long td, .long te, .int tk])), (a6, .inl (cJ, 240, .inr (.inl fi)))] sz)) 0 0 (va_A [(h1, .inr (1, [.long ta, .long tb, .long tc, .long td, .long te, .int tk])), (a6, .inl (cJ, 240, .inr (.inl fi)))] sz) := by
  refine Met.ofW (cc := cX1_countOthers) (maxL := 3) (ret := (some .int)) (by decide) rfl ?_
  intro p e s m args below meth c s₁ B hml hv
  obtain ⟨rfl, hsz, hP, hK, hD0⟩ := hv
  have hx := B.exec
  have hb := B.bytes
  have hr := B.returns
  have hts := atoms_spec (ws := wsX1_countOthers) B.pre
  have hown : s.vm.findClass RX1 = some m.cls := findClass_of_methodNamed B.named
  have hlocks := B.notSynchronized
  subst hsz
  have hD := hD0.self (sz := s.heap.size)
  generalize hAe : va_A [(h1, .inr (1, [.long ta, .long tb, .long tc, .long td, .long te, .int tk])), (a6, .inl (cJ, 240, .inr (.inl fi)))] s.heap.size = A at hD ⊢
  have hA : ∀ q : Nat, s.heap.size ≤ q → A q := fun q h => by rw [← hAe]; exact Or.inr h
  have hS : va_S A s.heap s.heap [] := va_S.rf
  have hP : va_P (dC, dI) vwC2 [(h1, .inr (1, [.long ta, .long tb, .long tc, .long td, .long te, .int tk])), (a6, .inl (cJ, 240, .inr (.inl fi)))] s.heap := hP
  have hl := lv_entry ([.ref h1, .ref a6, .int (nI bs)]) (n := 3) (Nat.le_of_ble_eq_true rfl)
  rw [lg_entry_eq]
  generalize (lg_sl ([.ref h1, .ref a6, .int (nI bs)]) ++ List.replicate (3 - (lg_sl ([.ref h1, .ref a6, .int (nI bs)])).length) Slot.unset).toArray = ls at hl ⊢
  have hl : lv_has ls 3 [(0, .ref h1), (1, .ref a6), (2, .int (nI bs))] := hl
  refine lv_aload_n hx hb dX1_countOthers_0 rfl (lv_at hl 0 rfl) ?_
  refine va_get (D := (dC, dI)) (ci := 1) (v := .long ta) (C := RX1) (T := TX1) (N := 6) hx hb hts (by decide +kernel) hown hK hP 0 rfl rfl 0 (by decide) (hts (.fieldLink RX1 9 "BatchClasses$Trial" "a" "J") (by decide +kernel)) (fun _ h9 => h9) rfl dX1_countOthers_1 ?_
  refine lv_aload_n hx hb dX1_countOthers_4 rfl (lv_at hl 1 rfl) ?_
  refine lv_iload_n hx hb dX1_countOthers_5 rfl (lv_at hl 2 rfl) ?_
  refine va_lald hx hb hK hP 1 2 rfl rfl (vp_in_nI (by omega) (by omega)) dX1_countOthers_6 ?_
  refine lv_topl (fun z_6 ez_6 => ?_)
  obtain rfl : z_6 = fi bs := ez_6.trans (by rw [nI_clamp (n := bs) (by omega)])
  refine W.lcmp hx hb dX1_countOthers_7 ?_
  refine lv_if_eq (tgt := 15) hx hb dX1_countOthers_8 (by decide) (fun c_8 => ?_) (fun c_8 => ?_)
  · have c_8 : ta = (fi bs) := (lg_cmp_eq ta (fi bs)).mp c_8
    refine lv_iconst (v := 0) hx hb dX1_countOthers_15 (by decide) ?_
    refine lv_aload_n hx hb dX1_countOthers_16 rfl (lv_at hl 0 rfl) ?_
    refine va_get (D := (dC, dI)) (ci := 1) (v := .long tb) (C := RX1) (T := TX1) (N := 6) hx hb hts (by decide +kernel) hown hK hP 0 rfl rfl 1 (by decide) (hts (.fieldLink RX1 15 "BatchClasses$Trial" "b" "J") (by decide +kernel)) (fun _ h9 => h9) rfl dX1_countOthers_17 ?_
    refine lv_aload_n hx hb dX1_countOthers_20 rfl (lv_at hl 1 rfl) ?_
    refine lv_iload_n hx hb dX1_countOthers_21 rfl (lv_at hl 2 rfl) ?_
    refine lv_iconst (v := 1) hx hb dX1_countOthers_22 (by decide) ?_
    refine lv_iadd hx hb dX1_countOthers_23 ?_
    refine lv_topi (fun z_23 ez_23 => ?_)
    obtain rfl : z_23 = nI (bs + 1) := ez_23.trans (nI_add bs 1)
    refine va_lald hx hb hK hP 1 2 rfl rfl (vp_in_nI (by omega) (by omega)) dX1_countOthers_24 ?_
    refine lv_topl (fun z_24 ez_24 => ?_)
    obtain rfl : z_24 = fi (bs + 1) := ez_24.trans (by rw [nI_clamp (n := (bs + 1)) (by omega)])
    refine W.lcmp hx hb dX1_countOthers_25 ?_
    refine lv_if_eq (tgt := 33) hx hb dX1_countOthers_26 (by decide) (fun c_26 => ?_) (fun c_26 => ?_)
    · have c_26 : tb = (fi (bs + 1)) := (lg_cmp_eq tb (fi (bs + 1))).mp c_26
      refine lv_iconst (v := 0) hx hb dX1_countOthers_33 (by decide) ?_
      refine lv_iadd hx hb dX1_countOthers_34 ?_
      refine lv_topi (fun z_34 ez_34 => ?_)
      obtain rfl : z_34 = 0 := ez_34.trans (by decide)
      refine lv_aload_n hx hb dX1_countOthers_35 rfl (lv_at hl 0 rfl) ?_
      refine va_get (D := (dC, dI)) (ci := 1) (v := .long tc) (C := RX1) (T := TX1) (N := 6) hx hb hts (by decide +kernel) hown hK hP 0 rfl rfl 2 (by decide) (hts (.fieldLink RX1 18 "BatchClasses$Trial" "c" "J") (by decide +kernel)) (fun _ h9 => h9) rfl dX1_countOthers_36 ?_
      refine lv_aload_n hx hb dX1_countOthers_39 rfl (lv_at hl 1 rfl) ?_
      refine lv_iload_n hx hb dX1_countOthers_40 rfl (lv_at hl 2 rfl) ?_
      refine lv_iconst (v := 2) hx hb dX1_countOthers_41 (by decide) ?_
      refine lv_iadd hx hb dX1_countOthers_42 ?_
      refine lv_topi (fun z_42 ez_42 => ?_)
      obtain rfl : z_42 = nI (bs + 2) := ez_42.trans (nI_add bs 2)
      refine va_lald hx hb hK hP 1 2 rfl rfl (vp_in_nI (by omega) (by omega)) dX1_countOthers_43 ?_
      refine lv_topl (fun z_43 ez_43 => ?_)
      obtain rfl : z_43 = fi (bs + 2) := ez_43.trans (by rw [nI_clamp (n := (bs + 2)) (by omega)])
      refine W.lcmp hx hb dX1_countOthers_44 ?_
      refine lv_if_eq (tgt := 52) hx hb dX1_countOthers_45 (by decide) (fun c_45 => ?_) (fun c_45 => ?_)
      · have c_45 : tc = (fi (bs + 2)) := (lg_cmp_eq tc (fi (bs + 2))).mp c_45
        refine lv_iconst (v := 0) hx hb dX1_countOthers_52 (by decide) ?_
        refine lv_iadd hx hb dX1_countOthers_53 ?_
        refine lv_topi (fun z_53 ez_53 => ?_)
        obtain rfl : z_53 = 0 := ez_53.trans (by decide)
        refine lv_aload_n hx hb dX1_countOthers_54 rfl (lv_at hl 0 rfl) ?_
        refine va_get (D := (dC, dI)) (ci := 1) (v := .long td) (C := RX1) (T := TX1) (N := 6) hx hb hts (by decide +kernel) hown hK hP 0 rfl rfl 3 (by decide) (hts (.fieldLink RX1 21 "BatchClasses$Trial" "d" "J") (by decide +kernel)) (fun _ h9 => h9) rfl dX1_countOthers_55 ?_
        refine lv_aload_n hx hb dX1_countOthers_58 rfl (lv_at hl 1 rfl) ?_
        refine lv_iload_n hx hb dX1_countOthers_59 rfl (lv_at hl 2 rfl) ?_
        refine lv_iconst (v := 3) hx hb dX1_countOthers_60 (by decide) ?_
        refine lv_iadd hx hb dX1_countOthers_61 ?_
        refine lv_topi (fun z_61 ez_61 => ?_)
        obtain rfl : z_61 = nI (bs + 3) := ez_61.trans (nI_add bs 3)
        refine va_lald hx hb hK hP 1 2 rfl rfl (vp_in_nI (by omega) (by omega)) dX1_countOthers_62 ?_
        refine lv_topl (fun z_62 ez_62 => ?_)
        obtain rfl : z_62 = fi (bs + 3) := ez_62.trans (by rw [nI_clamp (n := (bs + 3)) (by omega)])
        refine W.lcmp hx hb dX1_countOthers_63 ?_
        refine lv_if_eq (tgt := 71) hx hb dX1_countOthers_64 (by decide) (fun c_64 => ?_) (fun c_64 => ?_)
        · have c_64 : td = (fi (bs + 3)) := (lg_cmp_eq td (fi (bs + 3))).mp c_64
          refine lv_iconst (v := 0) hx hb dX1_countOthers_71 (by decide) ?_
          refine lv_iadd hx hb dX1_countOthers_72 ?_
          refine lv_topi (fun z_72 ez_72 => ?_)
          obtain rfl : z_72 = 0 := ez_72.trans (by decide)
          exact W.iret (v := 0) hx hb hr (fun t ht hW => ⟨⟨0, (), rfl, by first | (simp only [pT_count, if_pos c_8, if_pos c_26, if_pos c_45, if_pos c_64]; done) | (simp only [pT_count, if_pos c_8, if_pos c_26, if_pos c_45, if_pos c_64]; rfl) | rfl, by rw [ht]; exact hP, va_K.moved hW.alike hK, hD⟩, hS.F ht⟩) hS.2.2 dX1_countOthers_73
        · have c_64 : ¬ (td = (fi (bs + 3))) := mt (lg_cmp_eq td (fi (bs + 3))).mpr c_64
          refine lv_iconst (v := 1) hx hb dX1_countOthers_67 (by decide) ?_
          refine lv_goto (tgt := 72) hx hb dX1_countOthers_68 (by decide) ?_
          refine lv_iadd hx hb dX1_countOthers_72 ?_
          refine lv_topi (fun z_72 ez_72 => ?_)
          obtain rfl : z_72 = 1 := ez_72.trans (by decide)
          exact W.iret (v := 1) hx hb hr (fun t ht hW => ⟨⟨1, (), rfl, by first | (simp only [pT_count, if_pos c_8, if_pos c_26, if_pos c_45, if_neg c_64]; done) | (simp only [pT_count, if_pos c_8, if_pos c_26, if_pos c_45, if_neg c_64]; rfl) | rfl, by rw [ht]; exact hP, va_K.moved hW.alike hK, hD⟩, hS.F ht⟩) hS.2.2 dX1_countOthers_73
      · have c_45 : ¬ (tc = (fi (bs + 2))) := mt (lg_cmp_eq tc (fi (bs + 2))).mpr c_45
        refine lv_iconst (v := 1) hx hb dX1_countOthers_48 (by decide) ?_
        refine lv_goto (tgt := 53) hx hb dX1_countOthers_49 (by decide) ?_
        refine lv_iadd hx hb dX1_countOthers_53 ?_
        refine lv_topi (fun z_53 ez_53 => ?_)
        obtain rfl : z_53 = 1 := ez_53.trans (by decide)
        refine lv_aload_n hx hb dX1_countOthers_54 rfl (lv_at hl 0 rfl) ?_
        refine va_get (D := (dC, dI)) (ci := 1) (v := .long td) (C := RX1) (T := TX1) (N := 6) hx hb hts (by decide +kernel) hown hK hP 0 rfl rfl 3 (by decide) (hts (.fieldLink RX1 21 "BatchClasses$Trial" "d" "J") (by decide +kernel)) (fun _ h9 => h9) rfl dX1_countOthers_55 ?_
        refine lv_aload_n hx hb dX1_countOthers_58 rfl (lv_at hl 1 rfl) ?_
        refine lv_iload_n hx hb dX1_countOthers_59 rfl (lv_at hl 2 rfl) ?_
        refine lv_iconst (v := 3) hx hb dX1_countOthers_60 (by decide) ?_
        refine lv_iadd hx hb dX1_countOthers_61 ?_
        refine lv_topi (fun z_61 ez_61 => ?_)
        obtain rfl : z_61 = nI (bs + 3) := ez_61.trans (nI_add bs 3)
        refine va_lald hx hb hK hP 1 2 rfl rfl (vp_in_nI (by omega) (by omega)) dX1_countOthers_62 ?_
        refine lv_topl (fun z_62 ez_62 => ?_)
        obtain rfl : z_62 = fi (bs + 3) := ez_62.trans (by rw [nI_clamp (n := (bs + 3)) (by omega)])
        refine W.lcmp hx hb dX1_countOthers_63 ?_
        refine lv_if_eq (tgt := 71) hx hb dX1_countOthers_64 (by decide) (fun c_64 => ?_) (fun c_64 => ?_)
        · have c_64 : td = (fi (bs + 3)) := (lg_cmp_eq td (fi (bs + 3))).mp c_64
          refine lv_iconst (v := 0) hx hb dX1_countOthers_71 (by decide) ?_
          refine lv_iadd hx hb dX1_countOthers_72 ?_
          refine lv_topi (fun z_72 ez_72 => ?_)
          obtain rfl : z_72 = 1 := ez_72.trans (by decide)
          exact W.iret (v := 1) hx hb hr (fun t ht hW => ⟨⟨1, (), rfl, by first | (simp only [pT_count, if_pos c_8, if_pos c_26, if_neg c_45, if_pos c_64]; done) | (simp only [pT_count, if_pos c_8, if_pos c_26, if_neg c_45, if_pos c_64]; rfl) | rfl, by rw [ht]; exact hP, va_K.moved hW.alike hK, hD⟩, hS.F ht⟩) hS.2.2 dX1_countOthers_73
        · have c_64 : ¬ (td = (fi (bs + 3))) := mt (lg_cmp_eq td (fi (bs + 3))).mpr c_64
          refine lv_iconst (v := 1) hx hb dX1_countOthers_67 (by decide) ?_
          refine lv_goto (tgt := 72) hx hb dX1_countOthers_68 (by decide) ?_
          refine lv_iadd hx hb dX1_countOthers_72 ?_
          refine lv_topi (fun z_72 ez_72 => ?_)
          obtain rfl : z_72 = 2 := ez_72.trans (by decide)
          exact W.iret (v := 2) hx hb hr (fun t ht hW => ⟨⟨2, (), rfl, by first | (simp only [pT_count, if_pos c_8, if_pos c_26, if_neg c_45, if_neg c_64]; done) | (simp only [pT_count, if_pos c_8, if_pos c_26, if_neg c_45, if_neg c_64]; rfl) | rfl, by rw [ht]; exact hP, va_K.moved hW.alike hK, hD⟩, hS.F ht⟩) hS.2.2 dX1_countOthers_73
    · have c_26 : ¬ (tb = (fi (bs + 1))) := mt (lg_cmp_eq tb (fi (bs + 1))).mpr c_26
      refine lv_iconst (v := 1) hx hb dX1_countOthers_29 (by decide) ?_
      refine lv_goto (tgt := 34) hx hb dX1_countOthers_30 (by decide) ?_
      refine lv_iadd hx hb dX1_countOthers_34 ?_
      refine lv_topi (fun z_34 ez_34 => ?_)
      obtain rfl : z_34 = 1 := ez_34.trans (by decide)
      refine lv_aload_n hx hb dX1_countOthers_35 rfl (lv_at hl 0 rfl) ?_
      refine va_get (D := (dC, dI)) (ci := 1) (v := .long tc) (C := RX1) (T := TX1) (N := 6) hx hb hts (by decide +kernel) hown hK hP 0 rfl rfl 2 (by decide) (hts (.fieldLink RX1 18 "BatchClasses$Trial" "c" "J") (by decide +kernel)) (fun _ h9 => h9) rfl dX1_countOthers_36 ?_
      refine lv_aload_n hx hb dX1_countOthers_39 rfl (lv_at hl 1 rfl) ?_
      refine lv_iload_n hx hb dX1_countOthers_40 rfl (lv_at hl 2 rfl) ?_
      refine lv_iconst (v := 2) hx hb dX1_countOthers_41 (by decide) ?_
      refine lv_iadd hx hb dX1_countOthers_42 ?_
      refine lv_topi (fun z_42 ez_42 => ?_)
      obtain rfl : z_42 = nI (bs + 2) := ez_42.trans (nI_add bs 2)
      refine va_lald hx hb hK hP 1 2 rfl rfl (vp_in_nI (by omega) (by omega)) dX1_countOthers_43 ?_
      refine lv_topl (fun z_43 ez_43 => ?_)
      obtain rfl : z_43 = fi (bs + 2) := ez_43.trans (by rw [nI_clamp (n := (bs + 2)) (by omega)])
      refine W.lcmp hx hb dX1_countOthers_44 ?_
      refine lv_if_eq (tgt := 52) hx hb dX1_countOthers_45 (by decide) (fun c_45 => ?_) (fun c_45 => ?_)
      · have c_45 : tc = (fi (bs + 2)) := (lg_cmp_eq tc (fi (bs + 2))).mp c_45
        refine lv_iconst (v := 0) hx hb dX1_countOthers_52 (by decide) ?_
        refine lv_iadd hx hb dX1_countOthers_53 ?_
        refine lv_topi (fun z_53 ez_53 => ?_)
        obtain rfl : z_53 = 1 := ez_53.trans (by decide)
        refine lv_aload_n hx hb dX1_countOthers_54 rfl (lv_at hl 0 rfl) ?_
        refine va_get (D := (dC, dI)) (ci := 1) (v := .long td) (C := RX1) (T := TX1) (N := 6) hx hb hts (by decide +kernel) hown hK hP 0 rfl rfl 3 (by decide) (hts (.fieldLink RX1 21 "BatchClasses$Trial" "d" "J") (by decide +kernel)) (fun _ h9 => h9) rfl dX1_countOthers_55 ?_
        refine lv_aload_n hx hb dX1_countOthers_58 rfl (lv_at hl 1 rfl) ?_
        refine lv_iload_n hx hb dX1_countOthers_59 rfl (lv_at hl 2 rfl) ?_
        refine lv_iconst (v := 3) hx hb dX1_countOthers_60 (by decide) ?_
        refine lv_iadd hx hb dX1_countOthers_61 ?_
        refine lv_topi (fun z_61 ez_61 => ?_)
        obtain rfl : z_61 = nI (bs + 3) := ez_61.trans (nI_add bs 3)
        refine va_lald hx hb hK hP 1 2 rfl rfl (vp_in_nI (by omega) (by omega)) dX1_countOthers_62 ?_
        refine lv_topl (fun z_62 ez_62 => ?_)
        obtain rfl : z_62 = fi (bs + 3) := ez_62.trans (by rw [nI_clamp (n := (bs + 3)) (by omega)])
        refine W.lcmp hx hb dX1_countOthers_63 ?_
        refine lv_if_eq (tgt := 71) hx hb dX1_countOthers_64 (by decide) (fun c_64 => ?_) (fun c_64 => ?_)
        · have c_64 : td = (fi (bs + 3)) := (lg_cmp_eq td (fi (bs + 3))).mp c_64
          refine lv_iconst (v := 0) hx hb dX1_countOthers_71 (by decide) ?_
          refine lv_iadd hx hb dX1_countOthers_72 ?_
          refine lv_topi (fun z_72 ez_72 => ?_)
          obtain rfl : z_72 = 1 := ez_72.trans (by decide)
          exact W.iret (v := 1) hx hb hr (fun t ht hW => ⟨⟨1, (), rfl, by first | (simp only [pT_count, if_pos c_8, if_neg c_26, if_pos c_45, if_pos c_64]; done) | (simp only [pT_count, if_pos c_8, if_neg c_26, if_pos c_45, if_pos c_64]; rfl) | rfl, by rw [ht]; exact hP, va_K.moved hW.alike hK, hD⟩, hS.F ht⟩) hS.2.2 dX1_countOthers_73
        · have c_64 : ¬ (td = (fi (bs + 3))) := mt (lg_cmp_eq td (fi (bs + 3))).mpr c_64
          refine lv_iconst (v := 1) hx hb dX1_countOthers_67 (by decide) ?_
          refine lv_goto (tgt := 72) hx hb dX1_countOthers_68 (by decide) ?_
          refine lv_iadd hx hb dX1_countOthers_72 ?_
          refine lv_topi (fun z_72 ez_72 => ?_)
          obtain rfl : z_72 = 2 := ez_72.trans (by decide)
          exact W.iret (v := 2) hx hb hr (fun t ht hW => ⟨⟨2, (), rfl, by first | (simp only [pT_count, if_pos c_8, if_neg c_26, if_pos c_45, if_neg c_64]; done) | (simp only [pT_count, if_pos c_8, if_neg c_26, if_pos c_45, if_neg c_64]; rfl) | rfl, by rw [ht]; exact hP, va_K.moved hW.alike hK, hD⟩, hS.F ht⟩) hS.2.2 dX1_countOthers_73
      · have c_45 : ¬ (tc = (fi (bs + 2))) := mt (lg_cmp_eq tc (fi (bs + 2))).mpr c_45
        refine lv_iconst (v := 1) hx hb dX1_countOthers_48 (by decide) ?_
        refine lv_goto (tgt := 53) hx hb dX1_countOthers_49 (by decide) ?_
        refine lv_iadd hx hb dX1_countOthers_53 ?_
        refine lv_topi (fun z_53 ez_53 => ?_)
        obtain rfl : z_53 = 2 := ez_53.trans (by decide)
        refine lv_aload_n hx hb dX1_countOthers_54 rfl (lv_at hl 0 rfl) ?_
        refine va_get (D := (dC, dI)) (ci := 1) (v := .long td) (C := RX1) (T := TX1) (N := 6) hx hb hts (by decide +kernel) hown hK hP 0 rfl rfl 3 (by decide) (hts (.fieldLink RX1 21 "BatchClasses$Trial" "d" "J") (by decide +kernel)) (fun _ h9 => h9) rfl dX1_countOthers_55 ?_
        refine lv_aload_n hx hb dX1_countOthers_58 rfl (lv_at hl 1 rfl) ?_
        refine lv_iload_n hx hb dX1_countOthers_59 rfl (lv_at hl 2 rfl) ?_
        refine lv_iconst (v := 3) hx hb dX1_countOthers_60 (by decide) ?_
        refine lv_iadd hx hb dX1_countOthers_61 ?_
        refine lv_topi (fun z_61 ez_61 => ?_)
        obtain rfl : z_61 = nI (bs + 3) := ez_61.trans (nI_add bs 3)
        refine va_lald hx hb hK hP 1 2 rfl rfl (vp_in_nI (by omega) (by omega)) dX1_countOthers_62 ?_
        refine lv_topl (fun z_62 ez_62 => ?_)
        obtain rfl : z_62 = fi (bs + 3) := ez_62.trans (by rw [nI_clamp (n := (bs + 3)) (by omega)])
        refine W.lcmp hx hb dX1_countOthers_63 ?_
        refine lv_if_eq (tgt := 71) hx hb dX1_countOthers_64 (by decide) (fun c_64 => ?_) (fun c_64 => ?_)
        · have c_64 : td = (fi (bs + 3)) := (lg_cmp_eq td (fi (bs + 3))).mp c_64
          refine lv_iconst (v := 0) hx hb dX1_countOthers_71 (by decide) ?_
          refine lv_iadd hx hb dX1_countOthers_72 ?_
          refine lv_topi (fun z_72 ez_72 => ?_)
          obtain rfl : z_72 = 2 := ez_72.trans (by decide)
          exact W.iret (v := 2) hx hb hr (fun t ht hW => ⟨⟨2, (), rfl, by first | (simp only [pT_count, if_pos c_8, if_neg c_26, if_neg c_45, if_pos c_64]; done) | (simp only [pT_count, if_pos c_8, if_neg c_26, if_neg c_45, if_pos c_64]; rfl) | rfl, by rw [ht]; exact hP, va_K.moved hW.alike hK, hD⟩, hS.F ht⟩) hS.2.2 dX1_countOthers_73
        · have c_64 : ¬ (td = (fi (bs + 3))) := mt (lg_cmp_eq td (fi (bs + 3))).mpr c_64
          refine lv_iconst (v := 1) hx hb dX1_countOthers_67 (by decide) ?_
          refine lv_goto (tgt := 72) hx hb dX1_countOthers_68 (by decide) ?_
          refine lv_iadd hx hb dX1_countOthers_72 ?_
          refine lv_topi (fun z_72 ez_72 => ?_)
          obtain rfl : z_72 = 3 := ez_72.trans (by decide)
          exact W.iret (v := 3) hx hb hr (fun t ht hW => ⟨⟨3, (), rfl, by first | (simp only [pT_count, if_pos c_8, if_neg c_26, if_neg c_45, if_neg c_64]; done) | (simp only [pT_count, if_pos c_8, if_neg c_26, if_neg c_45, if_neg c_64]; rfl) | rfl, by rw [ht]; exact hP, va_K.moved hW.alike hK, hD⟩, hS.F ht⟩) hS.2.2 dX1_countOthers_73
  · have c_8 : ¬ (ta = (fi bs)) := mt (lg_cmp_eq ta (fi bs)).mpr c_8
    refine lv_iconst (v := 1) hx hb dX1_countOthers_11 (by decide) ?_
    refine lv_goto (tgt := 16) hx hb dX1_countOthers_12 (by decide) ?_
    refine lv_aload_n hx hb dX1_countOthers_16 rfl (lv_at hl 0 rfl) ?_
    refine va_get (D := (dC, dI)) (ci := 1) (v := .long tb) (C := RX1) (T := TX1) (N := 6) hx hb hts (by decide +kernel) hown hK hP 0 rfl rfl 1 (by decide) (hts (.fieldLink RX1 15 "BatchClasses$Trial" "b" "J") (by decide +kernel)) (fun _ h9 => h9) rfl dX1_countOthers_17 ?_
    refine lv_aload_n hx hb dX1_countOthers_20 rfl (lv_at hl 1 rfl) ?_
    refine lv_iload_n hx hb dX1_countOthers_21 rfl (lv_at hl 2 rfl) ?_
    refine lv_iconst (v := 1) hx hb dX1_countOthers_22 (by decide) ?_
    refine lv_iadd hx hb dX1_countOthers_23 ?_
    refine lv_topi (fun z_23 ez_23 => ?_)
    obtain rfl : z_23 = nI (bs + 1) := ez_23.trans (nI_add bs 1)
    refine va_lald hx hb hK hP 1 2 rfl rfl (vp_in_nI (by omega) (by omega)) dX1_countOthers_24 ?_
    refine lv_topl (fun z_24 ez_24 => ?_)
    obtain rfl : z_24 = fi (bs + 1) := ez_24.trans (by rw [nI_clamp (n := (bs + 1)) (by omega)])
    refine W.lcmp hx hb dX1_countOthers_25 ?_
    refine lv_if_eq (tgt := 33) hx hb dX1_countOthers_26 (by decide) (fun c_26 => ?_) (fun c_26 => ?_)
    · have c_26 : tb = (fi (bs + 1)) := (lg_cmp_eq tb (fi (bs + 1))).mp c_26
      refine lv_iconst (v := 0) hx hb dX1_countOthers_33 (by decide) ?_
      refine lv_iadd hx hb dX1_countOthers_34 ?_
      refine lv_topi (fun z_34 ez_34 => ?_)
      obtain rfl : z_34 = 1 := ez_34.trans (by decide)
      refine lv_aload_n hx hb dX1_countOthers_35 rfl (lv_at hl 0 rfl) ?_
      refine va_get (D := (dC, dI)) (ci := 1) (v := .long tc) (C := RX1) (T := TX1) (N := 6) hx hb hts (by decide +kernel) hown hK hP 0 rfl rfl 2 (by decide) (hts (.fieldLink RX1 18 "BatchClasses$Trial" "c" "J") (by decide +kernel)) (fun _ h9 => h9) rfl dX1_countOthers_36 ?_
      refine lv_aload_n hx hb dX1_countOthers_39 rfl (lv_at hl 1 rfl) ?_
      refine lv_iload_n hx hb dX1_countOthers_40 rfl (lv_at hl 2 rfl) ?_
      refine lv_iconst (v := 2) hx hb dX1_countOthers_41 (by decide) ?_
      refine lv_iadd hx hb dX1_countOthers_42 ?_
      refine lv_topi (fun z_42 ez_42 => ?_)
      obtain rfl : z_42 = nI (bs + 2) := ez_42.trans (nI_add bs 2)
      refine va_lald hx hb hK hP 1 2 rfl rfl (vp_in_nI (by omega) (by omega)) dX1_countOthers_43 ?_
      refine lv_topl (fun z_43 ez_43 => ?_)
      obtain rfl : z_43 = fi (bs + 2) := ez_43.trans (by rw [nI_clamp (n := (bs + 2)) (by omega)])
      refine W.lcmp hx hb dX1_countOthers_44 ?_
      refine lv_if_eq (tgt := 52) hx hb dX1_countOthers_45 (by decide) (fun c_45 => ?_) (fun c_45 => ?_)
      · have c_45 : tc = (fi (bs + 2)) := (lg_cmp_eq tc (fi (bs + 2))).mp c_45
        refine lv_iconst (v := 0) hx hb dX1_countOthers_52 (by decide) ?_
        refine lv_iadd hx hb dX1_countOthers_53 ?_
        refine lv_topi (fun z_53 ez_53 => ?_)
        obtain rfl : z_53 = 1 := ez_53.trans (by decide)
        refine lv_aload_n hx hb dX1_countOthers_54 rfl (lv_at hl 0 rfl) ?_
        refine va_get (D := (dC, dI)) (ci := 1) (v := .long td) (C := RX1) (T := TX1) (N := 6) hx hb hts (by decide +kernel) hown hK hP 0 rfl rfl 3 (by decide) (hts (.fieldLink RX1 21 "BatchClasses$Trial" "d" "J") (by decide +kernel)) (fun _ h9 => h9) rfl dX1_countOthers_55 ?_
        refine lv_aload_n hx hb dX1_countOthers_58 rfl (lv_at hl 1 rfl) ?_
        refine lv_iload_n hx hb dX1_countOthers_59 rfl (lv_at hl 2 rfl) ?_
        refine lv_iconst (v := 3) hx hb dX1_countOthers_60 (by decide) ?_
        refine lv_iadd hx hb dX1_countOthers_61 ?_
        refine lv_topi (fun z_61 ez_61 => ?_)
        obtain rfl : z_61 = nI (bs + 3) := ez_61.trans (nI_add bs 3)
        refine va_lald hx hb hK hP 1 2 rfl rfl (vp_in_nI (by omega) (by omega)) dX1_countOthers_62 ?_
        refine lv_topl (fun z_62 ez_62 => ?_)
        obtain rfl : z_62 = fi (bs + 3) := ez_62.trans (by rw [nI_clamp (n := (bs + 3)) (by omega)])
        refine W.lcmp hx hb dX1_countOthers_63 ?_
        refine lv_if_eq (tgt := 71) hx hb dX1_countOthers_64 (by decide) (fun c_64 => ?_) (fun c_64 => ?_)
        · have c_64 : td = (fi (bs + 3)) := (lg_cmp_eq td (fi (bs + 3))).mp c_64
          refine lv_iconst (v := 0) hx hb dX1_countOthers_71 (by decide) ?_
          refine lv_iadd hx hb dX1_countOthers_72 ?_
          refine lv_topi (fun z_72 ez_72 => ?_)
          obtain rfl : z_72 = 1 := ez_72.trans (by decide)
          exact W.iret (v := 1) hx hb hr (fun t ht hW => ⟨⟨1, (), rfl, by first | (simp only [pT_count, if_neg c_8, if_pos c_26, if_pos c_45, if_pos c_64]; done) | (simp only [pT_count, if_neg c_8, if_pos c_26, if_pos c_45, if_pos c_64]; rfl) | rfl, by rw [ht]; exact hP, va_K.moved hW.alike hK, hD⟩, hS.F ht⟩) hS.2.2 dX1_countOthers_73
        · have c_64 : ¬ (td = (fi (bs + 3))) := mt (lg_cmp_eq td (fi (bs + 3))).mpr c_64
          refine lv_iconst (v := 1) hx hb dX1_countOthers_67 (by decide) ?_
          refine lv_goto (tgt := 72) hx hb dX1_countOthers_68 (by decide) ?_
          refine lv_iadd hx hb dX1_countOthers_72 ?_
          refine lv_topi (fun z_72 ez_72 => ?_)
          obtain rfl : z_72 = 2 := ez_72.trans (by decide)
          exact W.iret (v := 2) hx hb hr (fun t ht hW => ⟨⟨2, (), rfl, by first | (simp only [pT_count, if_neg c_8, if_pos c_26, if_pos c_45, if_neg c_64]; done) | (simp only [pT_count, if_neg c_8, if_pos c_26, if_pos c_45, if_neg c_64]; rfl) | rfl, by rw [ht]; exact hP, va_K.moved hW.alike hK, hD⟩, hS.F ht⟩) hS.2.2 dX1_countOthers_73
      · have c_45 : ¬ (tc = (fi (bs + 2))) := mt (lg_cmp_eq tc (fi (bs + 2))).mpr c_45
        refine lv_iconst (v := 1) hx hb dX1_countOthers_48 (by decide) ?_
        refine lv_goto (tgt := 53) hx hb dX1_countOthers_49 (by decide) ?_
        refine lv_iadd hx hb dX1_countOthers_53 ?_
        refine lv_topi (fun z_53 ez_53 => ?_)
        obtain rfl : z_53 = 2 := ez_53.trans (by decide)
        refine lv_aload_n hx hb dX1_countOthers_54 rfl (lv_at hl 0 rfl) ?_
        refine va_get (D := (dC, dI)) (ci := 1) (v := .long td) (C := RX1) (T := TX1) (N := 6) hx hb hts (by decide +kernel) hown hK hP 0 rfl rfl 3 (by decide) (hts (.fieldLink RX1 21 "BatchClasses$Trial" "d" "J") (by decide +kernel)) (fun _ h9 => h9) rfl dX1_countOthers_55 ?_
        refine lv_aload_n hx hb dX1_countOthers_58 rfl (lv_at hl 1 rfl) ?_
        refine lv_iload_n hx hb dX1_countOthers_59 rfl (lv_at hl 2 rfl) ?_
        refine lv_iconst (v := 3) hx hb dX1_countOthers_60 (by decide) ?_
        refine lv_iadd hx hb dX1_countOthers_61 ?_
        refine lv_topi (fun z_61 ez_61 => ?_)
        obtain rfl : z_61 = nI (bs + 3) := ez_61.trans (nI_add bs 3)
        refine va_lald hx hb hK hP 1 2 rfl rfl (vp_in_nI (by omega) (by omega)) dX1_countOthers_62 ?_
        refine lv_topl (fun z_62 ez_62 => ?_)
        obtain rfl : z_62 = fi (bs + 3) := ez_62.trans (by rw [nI_clamp (n := (bs + 3)) (by omega)])
        refine W.lcmp hx hb dX1_countOthers_63 ?_
        refine lv_if_eq (tgt := 71) hx hb dX1_countOthers_64 (by decide) (fun c_64 => ?_) (fun c_64 => ?_)
        · have c_64 : td = (fi (bs + 3)) := (lg_cmp_eq td (fi (bs + 3))).mp c_64
          refine lv_iconst (v := 0) hx hb dX1_countOthers_71 (by decide) ?_
          refine lv_iadd hx hb dX1_countOthers_72 ?_
          refine lv_topi (fun z_72 ez_72 => ?_)
          obtain rfl : z_72 = 2 := ez_72.trans (by decide)
          exact W.iret (v := 2) hx hb hr (fun t ht hW => ⟨⟨2, (), rfl, by first | (simp only [pT_count, if_neg c_8, if_pos c_26, if_neg c_45, if_pos c_64]; done) | (simp only [pT_count, if_neg c_8, if_pos c_26, if_neg c_45, if_pos c_64]; rfl) | rfl, by rw [ht]; exact hP, va_K.moved hW.alike hK, hD⟩, hS.F ht⟩) hS.2.2 dX1_countOthers_73
        · have c_64 : ¬ (td = (fi (bs + 3))) := mt (lg_cmp_eq td (fi (bs + 3))).mpr c_64
          refine lv_iconst (v := 1) hx hb dX1_countOthers_67 (by decide) ?_
          refine lv_goto (tgt := 72) hx hb dX1_countOthers_68 (by decide) ?_
          refine lv_iadd hx hb dX1_countOthers_72 ?_
          refine lv_topi (fun z_72 ez_72 => ?_)
          obtain rfl : z_72 = 3 := ez_72.trans (by decide)
          exact W.iret (v := 3) hx hb hr (fun t ht hW => ⟨⟨3, (), rfl, by first | (simp only [pT_count, if_neg c_8, if_pos c_26, if_neg c_45, if_neg c_64]; done) | (simp only [pT_count, if_neg c_8, if_pos c_26, if_neg c_45, if_neg c_64]; rfl) | rfl, by rw [ht]; exact hP, va_K.moved hW.alike hK, hD⟩, hS.F ht⟩) hS.2.2 dX1_countOthers_73
    · have c_26 : ¬ (tb = (fi (bs + 1))) := mt (lg_cmp_eq tb (fi (bs + 1))).mpr c_26
      refine lv_iconst (v := 1) hx hb dX1_countOthers_29 (by decide) ?_
      refine lv_goto (tgt := 34) hx hb dX1_countOthers_30 (by decide) ?_
      refine lv_iadd hx hb dX1_countOthers_34 ?_
      refine lv_topi (fun z_34 ez_34 => ?_)
      obtain rfl : z_34 = 2 := ez_34.trans (by decide)
      refine lv_aload_n hx hb dX1_countOthers_35 rfl (lv_at hl 0 rfl) ?_
      refine va_get (D := (dC, dI)) (ci := 1) (v := .long tc) (C := RX1) (T := TX1) (N := 6) hx hb hts (by decide +kernel) hown hK hP 0 rfl rfl 2 (by decide) (hts (.fieldLink RX1 18 "BatchClasses$Trial" "c" "J") (by decide +kernel)) (fun _ h9 => h9) rfl dX1_countOthers_36 ?_
      refine lv_aload_n hx hb dX1_countOthers_39 rfl (lv_at hl 1 rfl) ?_
      refine lv_iload_n hx hb dX1_countOthers_40 rfl (lv_at hl 2 rfl) ?_
      refine lv_iconst (v := 2) hx hb dX1_countOthers_41 (by decide) ?_
      refine lv_iadd hx hb dX1_countOthers_42 ?_
      refine lv_topi (fun z_42 ez_42 => ?_)
      obtain rfl : z_42 = nI (bs + 2) := ez_42.trans (nI_add bs 2)
      refine va_lald hx hb hK hP 1 2 rfl rfl (vp_in_nI (by omega) (by omega)) dX1_countOthers_43 ?_
      refine lv_topl (fun z_43 ez_43 => ?_)
      obtain rfl : z_43 = fi (bs + 2) := ez_43.trans (by rw [nI_clamp (n := (bs + 2)) (by omega)])
      refine W.lcmp hx hb dX1_countOthers_44 ?_
      refine lv_if_eq (tgt := 52) hx hb dX1_countOthers_45 (by decide) (fun c_45 => ?_) (fun c_45 => ?_)
      · have c_45 : tc = (fi (bs + 2)) := (lg_cmp_eq tc (fi (bs + 2))).mp c_45
        refine lv_iconst (v := 0) hx hb dX1_countOthers_52 (by decide) ?_
        refine lv_iadd hx hb dX1_countOthers_53 ?_
        refine lv_topi (fun z_53 ez_53 => ?_)
        obtain rfl : z_53 = 2 := ez_53.trans (by decide)
        refine lv_aload_n hx hb dX1_countOthers_54 rfl (lv_at hl 0 rfl) ?_
        refine va_get (D := (dC, dI)) (ci := 1) (v := .long td) (C := RX1) (T := TX1) (N := 6) hx hb hts (by decide +kernel) hown hK hP 0 rfl rfl 3 (by decide) (hts (.fieldLink RX1 21 "BatchClasses$Trial" "d" "J") (by decide +kernel)) (fun _ h9 => h9) rfl dX1_countOthers_55 ?_
        refine lv_aload_n hx hb dX1_countOthers_58 rfl (lv_at hl 1 rfl) ?_
        refine lv_iload_n hx hb dX1_countOthers_59 rfl (lv_at hl 2 rfl) ?_
        refine lv_iconst (v := 3) hx hb dX1_countOthers_60 (by decide) ?_
        refine lv_iadd hx hb dX1_countOthers_61 ?_
        refine lv_topi (fun z_61 ez_61 => ?_)
        obtain rfl : z_61 = nI (bs + 3) := ez_61.trans (nI_add bs 3)
        refine va_lald hx hb hK hP 1 2 rfl rfl (vp_in_nI (by omega) (by omega)) dX1_countOthers_62 ?_
        refine lv_topl (fun z_62 ez_62 => ?_)
        obtain rfl : z_62 = fi (bs + 3) := ez_62.trans (by rw [nI_clamp (n := (bs + 3)) (by omega)])
        refine W.lcmp hx hb dX1_countOthers_63 ?_
        refine lv_if_eq (tgt := 71) hx hb dX1_countOthers_64 (by decide) (fun c_64 => ?_) (fun c_64 => ?_)
        · have c_64 : td = (fi (bs + 3)) := (lg_cmp_eq td (fi (bs + 3))).mp c_64
          refine lv_iconst (v := 0) hx hb dX1_countOthers_71 (by decide) ?_
          refine lv_iadd hx hb dX1_countOthers_72 ?_
          refine lv_topi (fun z_72 ez_72 => ?_)
          obtain rfl : z_72 = 2 := ez_72.trans (by decide)
          exact W.iret (v := 2) hx hb hr (fun t ht hW => ⟨⟨2, (), rfl, by first | (simp only [pT_count, if_neg c_8, if_neg c_26, if_pos c_45, if_pos c_64]; done) | (simp only [pT_count, if_neg c_8, if_neg c_26, if_pos c_45, if_pos c_64]; rfl) | rfl, by rw [ht]; exact hP, va_K.moved hW.alike hK, hD⟩, hS.F ht⟩) hS.2.2 dX1_countOthers_73
        · have c_64 : ¬ (td = (fi (bs + 3))) := mt (lg_cmp_eq td (fi (bs + 3))).mpr c_64
          refine lv_iconst (v := 1) hx hb dX1_countOthers_67 (by decide) ?_
          refine lv_goto (tgt := 72) hx hb dX1_countOthers_68 (by decide) ?_
          refine lv_iadd hx hb dX1_countOthers_72 ?_
          refine lv_topi (fun z_72 ez_72 => ?_)
          obtain rfl : z_72 = 3 := ez_72.trans (by decide)
          exact W.iret (v := 3) hx hb hr (fun t ht hW => ⟨⟨3, (), rfl, by first | (simp only [pT_count, if_neg c_8, if_neg c_26, if_pos c_45, if_neg c_64]; done) | (simp only [pT_count, if_neg c_8, if_neg c_26, if_pos c_45, if_neg c_64]; rfl) | rfl, by rw [ht]; exact hP, va_K.moved hW.alike hK, hD⟩, hS.F ht⟩) hS.2.2 dX1_countOthers_73
      · have c_45 : ¬ (tc = (fi (bs + 2))) := mt (lg_cmp_eq tc (fi (bs + 2))).mpr c_45
        refine lv_iconst (v := 1) hx hb dX1_countOthers_48 (by decide) ?_
        refine lv_goto (tgt := 53) hx hb dX1_countOthers_49 (by decide) ?_
        refine lv_iadd hx hb dX1_countOthers_53 ?_
        refine lv_topi (fun z_53 ez_53 => ?_)
        obtain rfl : z_53 = 3 := ez_53.trans (by decide)
        refine lv_aload_n hx hb dX1_countOthers_54 rfl (lv_at hl 0 rfl) ?_
        refine va_get (D := (dC, dI)) (ci := 1) (v := .long td) (C := RX1) (T := TX1) (N := 6) hx hb hts (by decide +kernel) hown hK hP 0 rfl rfl 3 (by decide) (hts (.fieldLink RX1 21 "BatchClasses$Trial" "d" "J") (by decide +kernel)) (fun _ h9 => h9) rfl dX1_countOthers_55 ?_
        refine lv_aload_n hx hb dX1_countOthers_58 rfl (lv_at hl 1 rfl) ?_
        refine lv_iload_n hx hb dX1_countOthers_59 rfl (lv_at hl 2 rfl) ?_
        refine lv_iconst (v := 3) hx hb dX1_countOthers_60 (by decide) ?_
        refine lv_iadd hx hb dX1_countOthers_61 ?_
        refine lv_topi (fun z_61 ez_61 => ?_)
        obtain rfl : z_61 = nI (bs + 3) := ez_61.trans (nI_add bs 3)
        refine va_lald hx hb hK hP 1 2 rfl rfl (vp_in_nI (by omega) (by omega)) dX1_countOthers_62 ?_
        refine lv_topl (fun z_62 ez_62 => ?_)
        obtain rfl : z_62 = fi (bs + 3) := ez_62.trans (by rw [nI_clamp (n := (bs + 3)) (by omega)])
        refine W.lcmp hx hb dX1_countOthers_63 ?_
        refine lv_if_eq (tgt := 71) hx hb dX1_countOthers_64 (by decide) (fun c_64 => ?_) (fun c_64 => ?_)
        · have c_64 : td = (fi (bs + 3)) := (lg_cmp_eq td (fi (bs + 3))).mp c_64
          refine lv_iconst (v := 0) hx hb dX1_countOthers_71 (by decide) ?_
          refine lv_iadd hx hb dX1_countOthers_72 ?_
          refine lv_topi (fun z_72 ez_72 => ?_)
          obtain rfl : z_72 = 3 := ez_72.trans (by decide)
          exact W.iret (v := 3) hx hb hr (fun t ht hW => ⟨⟨3, (), rfl, by first | (simp only [pT_count, if_neg c_8, if_neg c_26, if_neg c_45, if_pos c_64]; done) | (simp only [pT_count, if_neg c_8, if_neg c_26, if_neg c_45, if_pos c_64]; rfl) | rfl, by rw [ht]; exact hP, va_K.moved hW.alike hK, hD⟩, hS.F ht⟩) hS.2.2 dX1_countOthers_73
        · have c_64 : ¬ (td = (fi (bs + 3))) := mt (lg_cmp_eq td (fi (bs + 3))).mpr c_64
          refine lv_iconst (v := 1) hx hb dX1_countOthers_67 (by decide) ?_
          refine lv_goto (tgt := 72) hx hb dX1_countOthers_68 (by decide) ?_
          refine lv_iadd hx hb dX1_countOthers_72 ?_
          refine lv_topi (fun z_72 ez_72 => ?_)
          obtain rfl : z_72 = 4 := ez_72.trans (by decide)
          exact W.iret (v := 4) hx hb hr (fun t ht hW => ⟨⟨4, (), rfl, by first | (simp only [pT_count, if_neg c_8, if_neg c_26, if_neg c_45, if_neg c_64]; done) | (simp only [pT_count, if_neg c_8, if_neg c_26, if_neg c_45, if_neg c_64]; rfl) | rfl, by rw [ht]; exact hP, va_K.moved hW.alike hK, hD⟩, hS.F ht⟩) hS.2.2 dX1_countOthers_73
def pT_change (ta : Int64) (tb : Int64) (tc : Int64) (td : Int64) (te : Int64) (tk : Int32) (ac : (Nat)) : Int32 × Int64 × Int64 × Int64 × Int64 × Int64 × Int32 :=
  match ac with
  | 1 =>
    (0, (ta + 1), tb, tc, td, te, tk)
  | 2 =>
    (0, (ta * 2), tb, tc, td, te, tk)
  | 3 =>
    (0, ta, ta, tc, td, te, tk)
  | 4 =>
    if tb = 0 then
      (2, ta, tb, tc, td, te, tk)
    else
      (0, (ta / tb), tb, tc, td, te, tk)
  | 5 =>
    match pT_swap ta tb with
    | (ta_131, tb_131) =>
      (0, ta_131, tb_131, tc, td, te, tk)
  | 7 =>
    (0, ta, tb, tc, td, te, 1)
  | 8 =>
    (0, ta, tb, tc, td, (te + ta), tk)
  | 9 =>
    (0, te, tb, tc, td, te, tk)
  | 10 =>
    (3, ta, tb, tc, td, te, tk)
  | 11 =>
    (0, ta, tb, td, td, te, tk)
  | 12 =>
    (0, ta, tb, tc, (ta - tc), te, tk)
  | _ =>
    (0, ta, tb, tc, td, te, tk)
set_option maxHeartbeats 4000000 in
set_option maxRecDepth 100000 in
theorem k_X1_change (l : Launch) (dC : Nat → ClassId) (dI : Nat → Nat → Nat) (cI cZ cJ : ClassId) (sz : Nat) (h1 : Nat) (ta tb tc td te : Int64) (tk : Int32) (ac : (Nat)) (hac : ac < 16) : Met l yX1_change wsX1_change ({ frames := 1, cells := 0, slots := 0, locals := 22 }) (va_Pc [.ref h1, .int (nI ac)] (fun U => U.heap.size = sz ∧ va_P (dC, dI) vwC2 [(h1, .inr (1, [.long ta, .long tb, .long tc, .long td, .long te, .int tk]))] U.heap ∧ va_K (dC, dI) vwC2 [(cI, .int), (cZ, .boolean), (cJ, .long)] U ∧ va_D (fun _ => True) [(h1, .inr (1, [.long ta, .long tb, .long tc, .long td, .long te, .int tk]))])) (va_Qi (fun (r : Int32) (u : Int64 × Int64 × Int64 × Int64 × Int64 × Int32) => (r, u) = pT_change ta tb tc td te tk ac) (fun (u : Int64 × Int64 × Int64 × Int64 × Int64 × Int32) (t : State) => match u with | (ta', tb', tc', td', te', tk') => va_P (dC, dI) vwC2 [(h1, .inr (1, [.long ta', .long tb', .long tc', .long td', .long te', .int tk']))] t.heap ∧ va_K (dC, dI) vwC2 [(cI, .int), (cZ, .boolean), (cJ, .long)] t ∧ va_D (va_A [(h1, .inr (1, [.long ta, .long tb, .long tc, .long td, .long te, .int tk]))] sz) [(h1, .inr (1, [.long ta', .long tb', .long tc', .long td', .long te', .int tk']))]) (va_A [(h1, .inr (1, [.long ta, .long tb, .long tc, .long td, .long te, .int tk]))] sz)) 0 0 (va_A [(h1, .inr (1, [.long ta, .long tb, .long tc, .long td, .long te, .int tk]))] sz) := by
  refine Met.ofW (cc := cX1_change) (maxL := 2) (ret := (some .int)) (by decide) rfl ?_
  intro p e s m args below meth c s₁ B hml hv
  obtain ⟨rfl, hsz, hP, hK, hD0⟩ := hv
  have hx := B.exec
  have hb := B.bytes
  have hr := B.returns
  have hts := atoms_spec (ws := wsX1_change) B.pre
  have hown : s.vm.findClass RX1 = some m.cls := findClass_of_methodNamed B.named
  have hlocks := B.notSynchronized
  subst hsz
  have hD := hD0.self (sz := s.heap.size)
  generalize hAe : va_A [(h1, .inr (1, [.long ta, .long tb, .long tc, .long td, .long te, .int tk]))] s.heap.size = A at hD ⊢
  have hA : ∀ q : Nat, s.heap.size ≤ q → A q := fun q h => by rw [← hAe]; exact Or.inr h
  have hS : va_S A s.heap s.heap [] := va_S.rf
  have hP : va_P (dC, dI) vwC2 [(h1, .inr (1, [.long ta, .long tb, .long tc, .long td, .long te, .int tk]))] s.heap := hP
  have hl := lv_entry ([.ref h1, .int (nI ac)]) (n := 2) (Nat.le_of_ble_eq_true rfl)
  rw [lg_entry_eq]
  generalize (lg_sl ([.ref h1, .int (nI ac)]) ++ List.replicate (2 - (lg_sl ([.ref h1, .int (nI ac)])).length) Slot.unset).toArray = ls at hl ⊢
  have hl : lv_has ls 2 [(0, .ref h1), (1, .int (nI ac))] := hl
  refine lv_iload_n hx hb dX1_change_0 rfl (lv_at hl 1 rfl) ?_
  rcases (show ac = 0 ∨ ac = 1 ∨ ac = 2 ∨ ac = 3 ∨ ac = 4 ∨ ac = 5 ∨ ac = 6 ∨ ac = 7 ∨ ac = 8 ∨ ac = 9 ∨ ac = 10 ∨ ac = 11 ∨ ac = 12 ∨ ac = 13 ∨ ac = 14 ∨ ac = 15 by omega) with rfl | rfl | rfl | rfl | rfl | rfl | rfl | rfl | rfl | rfl | rfl | rfl | rfl | rfl | rfl | rfl
  · refine lv_tableOut (x := nI 0) (tgt := 201) hx hb dX1_change_1 (by decide +kernel) (by decide) ?_
    refine lv_iconst (v := 0) hx hb dX1_change_201 (by decide) ?_
    exact W.iret (v := 0) hx hb hr (fun t ht hW => ⟨⟨0, (ta, tb, tc, td, te, tk), rfl, by first | (simp only [pT_change]; done) | (simp only [pT_change]; rfl) | rfl, by rw [ht]; exact hP, va_K.moved hW.alike hK, hD⟩, hS.F ht⟩) hS.2.2 dX1_change_202
  · refine lv_tableIn (x := nI 1) (tgt := 64) hx hb dX1_change_1 (by decide +kernel) (by decide +kernel) rfl (by decide) ?_
    refine lv_aload_n hx hb dX1_change_64 rfl (lv_at hl 0 rfl) ?_
    refine lv_dup hx hb dX1_change_65 rfl ?_
    refine va_get (D := (dC, dI)) (ci := 1) (v := .long ta) (C := RX1) (T := TX1) (N := 6) hx hb hts (by decide +kernel) hown hK hP 0 rfl rfl 0 (by decide) (hts (.fieldLink RX1 9 "BatchClasses$Trial" "a" "J") (by decide +kernel)) (fun _ h9 => h9) rfl dX1_change_66 ?_
    refine lv_lconst (v := 1) hx hb dX1_change_69 (by decide) ?_
    refine lv_ladd hx hb dX1_change_70 ?_
    refine va_put (D := (dC, dI)) (ci := 1) (v := .long (ta + 1)) (ty := .long) (C := RX1) (T := TX1) (N := 6) hx hb hts (by decide +kernel) tyX1 tyX1_ok nmX1 hown hK hP hD hS 0 rfl rfl 0 (by decide) (hts (.fieldLink RX1 9 "BatchClasses$Trial" "a" "J") (by decide +kernel)) (fun _ h9 => h9) rfl (by decide +kernel) rfl rfl (Nat.le_of_ble_eq_true rfl) dX1_change_71 (fun H locs hP hD hS => ?_)
    have hP : va_P (dC, dI) vwC2 [(h1, .inr (1, [.long (ta + 1), .long tb, .long tc, .long td, .long te, .int tk]))] H := hP
    have hD : va_D A [(h1, .inr (1, [.long (ta + 1), .long tb, .long tc, .long td, .long te, .int tk]))] := hD
    refine lv_goto (tgt := 201) hx hb dX1_change_74 (by decide) ?_
    refine lv_iconst (v := 0) hx hb dX1_change_201 (by decide) ?_
    exact W.iret (v := 0) hx hb hr (fun t ht hW => ⟨⟨0, ((ta + 1), tb, tc, td, te, tk), rfl, by first | (simp only [pT_change]; done) | (simp only [pT_change]; rfl) | rfl, by rw [ht]; exact hP, va_K.moved hW.alike hK, hD⟩, hS.F ht⟩) hS.2.2 dX1_change_202
  · refine lv_tableIn (x := nI 2) (tgt := 77) hx hb dX1_change_1 (by decide +kernel) (by decide +kernel) rfl (by decide) ?_
    refine lv_aload_n hx hb dX1_change_77 rfl (lv_at hl 0 rfl) ?_
    refine lv_dup hx hb dX1_change_78 rfl ?_
    refine va_get (D := (dC, dI)) (ci := 1) (v := .long ta) (C := RX1) (T := TX1) (N := 6) hx hb hts (by decide +kernel) hown hK hP 0 rfl rfl 0 (by decide) (hts (.fieldLink RX1 9 "BatchClasses$Trial" "a" "J") (by decide +kernel)) (fun _ h9 => h9) rfl dX1_change_79 ?_
    refine lv_ldc2 (v := 2) hx hb hown (hts (.constantLong RX1 35 2) (by decide +kernel)) dX1_change_82 ?_
    refine lv_lmul hx hb dX1_change_85 ?_
    refine va_put (D := (dC, dI)) (ci := 1) (v := .long (ta * 2)) (ty := .long) (C := RX1) (T := TX1) (N := 6) hx hb hts (by decide +kernel) tyX1 tyX1_ok nmX1 hown hK hP hD hS 0 rfl rfl 0 (by decide) (hts (.fieldLink RX1 9 "BatchClasses$Trial" "a" "J") (by decide +kernel)) (fun _ h9 => h9) rfl (by decide +kernel) rfl rfl (Nat.le_of_ble_eq_true rfl) dX1_change_86 (fun H locs hP hD hS => ?_)
    have hP : va_P (dC, dI) vwC2 [(h1, .inr (1, [.long (ta * 2), .long tb, .long tc, .long td, .long te, .int tk]))] H := hP
    have hD : va_D A [(h1, .inr (1, [.long (ta * 2), .long tb, .long tc, .long td, .long te, .int tk]))] := hD
    refine lv_goto (tgt := 201) hx hb dX1_change_89 (by decide) ?_
    refine lv_iconst (v := 0) hx hb dX1_change_201 (by decide) ?_
    exact W.iret (v := 0) hx hb hr (fun t ht hW => ⟨⟨0, ((ta * 2), tb, tc, td, te, tk), rfl, by first | (simp only [pT_change]; done) | (simp only [pT_change]; rfl) | rfl, by rw [ht]; exact hP, va_K.moved hW.alike hK, hD⟩, hS.F ht⟩) hS.2.2 dX1_change_202
  · refine lv_tableIn (x := nI 3) (tgt := 92) hx hb dX1_change_1 (by decide +kernel) (by decide +kernel) rfl (by decide) ?_
    refine lv_aload_n hx hb dX1_change_92 rfl (lv_at hl 0 rfl) ?_
    refine lv_aload_n hx hb dX1_change_93 rfl (lv_at hl 0 rfl) ?_
    refine va_get (D := (dC, dI)) (ci := 1) (v := .long ta) (C := RX1) (T := TX1) (N := 6) hx hb hts (by decide +kernel) hown hK hP 0 rfl rfl 0 (by decide) (hts (.fieldLink RX1 9 "BatchClasses$Trial" "a" "J") (by decide +kernel)) (fun _ h9 => h9) rfl dX1_change_94 ?_
    refine va_put (D := (dC, dI)) (ci := 1) (v := .long ta) (ty := .long) (C := RX1) (T := TX1) (N := 6) hx hb hts (by decide +kernel) tyX1 tyX1_ok nmX1 hown hK hP hD hS 0 rfl rfl 1 (by decide) (hts (.fieldLink RX1 15 "BatchClasses$Trial" "b" "J") (by decide +kernel)) (fun _ h9 => h9) rfl (by decide +kernel) rfl rfl (Nat.le_of_ble_eq_true rfl) dX1_change_97 (fun H locs hP hD hS => ?_)
    have hP : va_P (dC, dI) vwC2 [(h1, .inr (1, [.long ta, .long ta, .long tc, .long td, .long te, .int tk]))] H := hP
    have hD : va_D A [(h1, .inr (1, [.long ta, .long ta, .long tc, .long td, .long te, .int tk]))] := hD
    refine lv_goto (tgt := 201) hx hb dX1_change_100 (by decide) ?_
    refine lv_iconst (v := 0) hx hb dX1_change_201 (by decide) ?_
    exact W.iret (v := 0) hx hb hr (fun t ht hW => ⟨⟨0, (ta, ta, tc, td, te, tk), rfl, by first | (simp only [pT_change]; done) | (simp only [pT_change]; rfl) | rfl, by rw [ht]; exact hP, va_K.moved hW.alike hK, hD⟩, hS.F ht⟩) hS.2.2 dX1_change_202
  · refine lv_tableIn (x := nI 4) (tgt := 103) hx hb dX1_change_1 (by decide +kernel) (by decide +kernel) rfl (by decide) ?_
    refine lv_aload_n hx hb dX1_change_103 rfl (lv_at hl 0 rfl) ?_
    refine va_get (D := (dC, dI)) (ci := 1) (v := .long tb) (C := RX1) (T := TX1) (N := 6) hx hb hts (by decide +kernel) hown hK hP 0 rfl rfl 1 (by decide) (hts (.fieldLink RX1 15 "BatchClasses$Trial" "b" "J") (by decide +kernel)) (fun _ h9 => h9) rfl dX1_change_104 ?_
    refine lv_lconst (v := 0) hx hb dX1_change_107 (by decide) ?_
    refine W.lcmp hx hb dX1_change_108 ?_
    refine lv_if_ne (tgt := 114) hx hb dX1_change_109 (by decide) (fun c_109 => ?_) (fun c_109 => ?_)
    · have c_109 : ¬ (tb = 0) := mt (lg_cmp_eq tb 0).mpr c_109
      refine lv_aload_n hx hb dX1_change_114 rfl (lv_at hl 0 rfl) ?_
      refine lv_dup hx hb dX1_change_115 rfl ?_
      refine va_get (D := (dC, dI)) (ci := 1) (v := .long ta) (C := RX1) (T := TX1) (N := 6) hx hb hts (by decide +kernel) hown hK hP 0 rfl rfl 0 (by decide) (hts (.fieldLink RX1 9 "BatchClasses$Trial" "a" "J") (by decide +kernel)) (fun _ h9 => h9) rfl dX1_change_116 ?_
      refine lv_aload_n hx hb dX1_change_119 rfl (lv_at hl 0 rfl) ?_
      refine va_get (D := (dC, dI)) (ci := 1) (v := .long tb) (C := RX1) (T := TX1) (N := 6) hx hb hts (by decide +kernel) hown hK hP 0 rfl rfl 1 (by decide) (hts (.fieldLink RX1 15 "BatchClasses$Trial" "b" "J") (by decide +kernel)) (fun _ h9 => h9) rfl dX1_change_120 ?_
      refine lv_ldiv hx hb dX1_change_123 c_109 ?_
      refine va_put (D := (dC, dI)) (ci := 1) (v := .long (ta / tb)) (ty := .long) (C := RX1) (T := TX1) (N := 6) hx hb hts (by decide +kernel) tyX1 tyX1_ok nmX1 hown hK hP hD hS 0 rfl rfl 0 (by decide) (hts (.fieldLink RX1 9 "BatchClasses$Trial" "a" "J") (by decide +kernel)) (fun _ h9 => h9) rfl (by decide +kernel) rfl rfl (Nat.le_of_ble_eq_true rfl) dX1_change_124 (fun H locs hP hD hS => ?_)
      have hP : va_P (dC, dI) vwC2 [(h1, .inr (1, [.long (ta / tb), .long tb, .long tc, .long td, .long te, .int tk]))] H := hP
      have hD : va_D A [(h1, .inr (1, [.long (ta / tb), .long tb, .long tc, .long td, .long te, .int tk]))] := hD
      refine lv_goto (tgt := 201) hx hb dX1_change_127 (by decide) ?_
      refine lv_iconst (v := 0) hx hb dX1_change_201 (by decide) ?_
      exact W.iret (v := 0) hx hb hr (fun t ht hW => ⟨⟨0, ((ta / tb), tb, tc, td, te, tk), rfl, by first | (simp only [pT_change, if_neg c_109]; done) | (simp only [pT_change, if_neg c_109]; rfl) | rfl, by rw [ht]; exact hP, va_K.moved hW.alike hK, hD⟩, hS.F ht⟩) hS.2.2 dX1_change_202
    · have c_109 : tb = 0 := (lg_cmp_eq tb 0).mp c_109
      refine lv_iconst (v := 2) hx hb dX1_change_112 (by decide) ?_
      exact W.iret (v := 2) hx hb hr (fun t ht hW => ⟨⟨2, (ta, tb, tc, td, te, tk), rfl, by first | (simp only [pT_change, if_pos c_109]; done) | (simp only [pT_change, if_pos c_109]; rfl) | rfl, by rw [ht]; exact hP, va_K.moved hW.alike hK, hD⟩, hS.F ht⟩) hS.2.2 dX1_change_113
  · refine lv_tableIn (x := nI 5) (tgt := 130) hx hb dX1_change_1 (by decide +kernel) (by decide +kernel) rfl (by decide) ?_
    refine lv_aload_n hx hb dX1_change_130 rfl (lv_at hl 0 rfl) ?_
    have hPc := hP.sub (ws' := [(h1, .inr (1, [.long ta, .long tb, .long tc, .long td, .long te, .int tk]))]) [0] rfl
    have hDc := hD.sub (ws' := [(h1, .inr (1, [.long ta, .long tb, .long tc, .long td, .long te, .int tk]))]) [0] (by decide) rfl
    have hFc := va_free (wc := [(h1, .inr (1, [.long ta, .long tb, .long tc, .long td, .long te, .int tk]))]) hD hS hA [0] rfl
    refine va_callv (va_runV (As := []) (rest := []) ⟨hx, hb, hml, hown, hts⟩ (k_X1_swap l dC dI cI cZ cJ s.heap.size h1 ta tb tc td te tk) (cwV 0 hts gX1_change_X1_swap rfl rfl rfl (by decide +kernel) ⟨Nat.le_of_ble_eq_true rfl, Nat.le_of_ble_eq_true rfl⟩) ⟨fun a U g mk q => by obtain ⟨q0, q1, qP, qK, qD⟩ := q; exact ⟨q0, q1, qP, va_K.moved (u := U) (U := U.calling g mk a) (Vm.Alike.refl U.vm) qK, qD⟩, va_recv hK hPc (ci := 1) (q0 := 0) rfl rfl, fun U hU hW => ⟨rfl, by rw [hU], by rw [hU]; exact hPc, va_K.moved hW.alike hK, hDc.weaken (fun _ _ _ _ => trivial)⟩⟩ rfl rfl hl.1 rfl (lv_room (Nat.le_of_ble_eq_true rfl)) dX1_change_131 ⟨Nat.zero_le _, Nat.zero_le _⟩) hS (fun q _ h => hFc q h) hFc (fun u t H1 locs ht hvm hw_131 hB hz1 hk1 hS => ?_)
    obtain ⟨ta_131, tb_131⟩ := u
    obtain ⟨hP1, hK1, hD1⟩ := hB
    rw [ht] at hP1
    try dsimp only at hw_131
    obtain ⟨hP, hD⟩ := va_join (wr := []) (w1 := [(h1, .inr (1, [.long ta_131, .long tb_131, .long tc, .long td, .long te, .int tk]))]) hP hD [0] [] rfl rfl (by decide) (by decide) hk1 hFc hP1 hD1
    generalize H1 = H at hP hS ⊢
    have hP : va_P (dC, dI) vwC2 [(h1, .inr (1, [.long ta_131, .long tb_131, .long tc, .long td, .long te, .int tk]))] H := hP.sub [0] rfl
    have hD : va_D A [(h1, .inr (1, [.long ta_131, .long tb_131, .long tc, .long td, .long te, .int tk]))] := hD.sub [0] (by decide) rfl
    refine lv_goto (tgt := 201) hx hb dX1_change_134 (by decide) ?_
    refine lv_iconst (v := 0) hx hb dX1_change_201 (by decide) ?_
    exact W.iret (v := 0) hx hb hr (fun t ht hW => ⟨⟨0, (ta_131, tb_131, tc, td, te, tk), rfl, by first | (simp only [pT_change, ← hw_131]; done) | (simp only [pT_change, ← hw_131]; rfl) | rfl, by rw [ht]; exact hP, va_K.moved hW.alike hK, hD⟩, hS.F ht⟩) hS.2.2 dX1_change_202
  · refine lv_tableIn (x := nI 6) (tgt := 201) hx hb dX1_change_1 (by decide +kernel) (by decide +kernel) rfl (by decide) ?_
    refine lv_iconst (v := 0) hx hb dX1_change_201 (by decide) ?_
    exact W.iret (v := 0) hx hb hr (fun t ht hW => ⟨⟨0, (ta, tb, tc, td, te, tk), rfl, by first | (simp only [pT_change]; done) | (simp only [pT_change]; rfl) | rfl, by rw [ht]; exact hP, va_K.moved hW.alike hK, hD⟩, hS.F ht⟩) hS.2.2 dX1_change_202
  · refine lv_tableIn (x := nI 7) (tgt := 137) hx hb dX1_change_1 (by decide +kernel) (by decide +kernel) rfl (by decide) ?_
    refine lv_aload_n hx hb dX1_change_137 rfl (lv_at hl 0 rfl) ?_
    refine lv_iconst (v := 1) hx hb dX1_change_138 (by decide) ?_
    refine va_put (D := (dC, dI)) (ci := 1) (v := .int 1) (ty := .boolean) (C := RX1) (T := TX1) (N := 6) hx hb hts (by decide +kernel) tyX1 tyX1_ok nmX1 hown hK hP hD hS 0 rfl rfl 5 (by decide) (hts (.fieldLink RX1 27 "BatchClasses$Trial" "locks" "Z") (by decide +kernel)) (fun _ h9 => h9) rfl (by decide +kernel) rfl rfl (Nat.le_of_ble_eq_true rfl) dX1_change_139 (fun H locs hP hD hS => ?_)
    have hP : va_P (dC, dI) vwC2 [(h1, .inr (1, [.long ta, .long tb, .long tc, .long td, .long te, .int 1]))] H := hP
    have hD : va_D A [(h1, .inr (1, [.long ta, .long tb, .long tc, .long td, .long te, .int 1]))] := hD
    refine lv_goto (tgt := 201) hx hb dX1_change_142 (by decide) ?_
    refine lv_iconst (v := 0) hx hb dX1_change_201 (by decide) ?_
    exact W.iret (v := 0) hx hb hr (fun t ht hW => ⟨⟨0, (ta, tb, tc, td, te, 1), rfl, by first | (simp only [pT_change]; done) | (simp only [pT_change]; rfl) | rfl, by rw [ht]; exact hP, va_K.moved hW.alike hK, hD⟩, hS.F ht⟩) hS.2.2 dX1_change_202
  · refine lv_tableIn (x := nI 8) (tgt := 145) hx hb dX1_change_1 (by decide +kernel) (by decide +kernel) rfl (by decide) ?_
    refine lv_aload_n hx hb dX1_change_145 rfl (lv_at hl 0 rfl) ?_
    refine lv_dup hx hb dX1_change_146 rfl ?_
    refine va_get (D := (dC, dI)) (ci := 1) (v := .long te) (C := RX1) (T := TX1) (N := 6) hx hb hts (by decide +kernel) hown hK hP 0 rfl rfl 4 (by decide) (hts (.fieldLink RX1 24 "BatchClasses$Trial" "cell" "J") (by decide +kernel)) (fun _ h9 => h9) rfl dX1_change_147 ?_
    refine lv_aload_n hx hb dX1_change_150 rfl (lv_at hl 0 rfl) ?_
    refine va_get (D := (dC, dI)) (ci := 1) (v := .long ta) (C := RX1) (T := TX1) (N := 6) hx hb hts (by decide +kernel) hown hK hP 0 rfl rfl 0 (by decide) (hts (.fieldLink RX1 9 "BatchClasses$Trial" "a" "J") (by decide +kernel)) (fun _ h9 => h9) rfl dX1_change_151 ?_
    refine lv_ladd hx hb dX1_change_154 ?_
    refine va_put (D := (dC, dI)) (ci := 1) (v := .long (te + ta)) (ty := .long) (C := RX1) (T := TX1) (N := 6) hx hb hts (by decide +kernel) tyX1 tyX1_ok nmX1 hown hK hP hD hS 0 rfl rfl 4 (by decide) (hts (.fieldLink RX1 24 "BatchClasses$Trial" "cell" "J") (by decide +kernel)) (fun _ h9 => h9) rfl (by decide +kernel) rfl rfl (Nat.le_of_ble_eq_true rfl) dX1_change_155 (fun H locs hP hD hS => ?_)
    have hP : va_P (dC, dI) vwC2 [(h1, .inr (1, [.long ta, .long tb, .long tc, .long td, .long (te + ta), .int tk]))] H := hP
    have hD : va_D A [(h1, .inr (1, [.long ta, .long tb, .long tc, .long td, .long (te + ta), .int tk]))] := hD
    refine lv_goto (tgt := 201) hx hb dX1_change_158 (by decide) ?_
    refine lv_iconst (v := 0) hx hb dX1_change_201 (by decide) ?_
    exact W.iret (v := 0) hx hb hr (fun t ht hW => ⟨⟨0, (ta, tb, tc, td, (te + ta), tk), rfl, by first | (simp only [pT_change]; done) | (simp only [pT_change]; rfl) | rfl, by rw [ht]; exact hP, va_K.moved hW.alike hK, hD⟩, hS.F ht⟩) hS.2.2 dX1_change_202
  · refine lv_tableIn (x := nI 9) (tgt := 161) hx hb dX1_change_1 (by decide +kernel) (by decide +kernel) rfl (by decide) ?_
    refine lv_aload_n hx hb dX1_change_161 rfl (lv_at hl 0 rfl) ?_
    refine lv_aload_n hx hb dX1_change_162 rfl (lv_at hl 0 rfl) ?_
    refine va_get (D := (dC, dI)) (ci := 1) (v := .long te) (C := RX1) (T := TX1) (N := 6) hx hb hts (by decide +kernel) hown hK hP 0 rfl rfl 4 (by decide) (hts (.fieldLink RX1 24 "BatchClasses$Trial" "cell" "J") (by decide +kernel)) (fun _ h9 => h9) rfl dX1_change_163 ?_
    refine va_put (D := (dC, dI)) (ci := 1) (v := .long te) (ty := .long) (C := RX1) (T := TX1) (N := 6) hx hb hts (by decide +kernel) tyX1 tyX1_ok nmX1 hown hK hP hD hS 0 rfl rfl 0 (by decide) (hts (.fieldLink RX1 9 "BatchClasses$Trial" "a" "J") (by decide +kernel)) (fun _ h9 => h9) rfl (by decide +kernel) rfl rfl (Nat.le_of_ble_eq_true rfl) dX1_change_166 (fun H locs hP hD hS => ?_)
    have hP : va_P (dC, dI) vwC2 [(h1, .inr (1, [.long te, .long tb, .long tc, .long td, .long te, .int tk]))] H := hP
    have hD : va_D A [(h1, .inr (1, [.long te, .long tb, .long tc, .long td, .long te, .int tk]))] := hD
    refine lv_goto (tgt := 201) hx hb dX1_change_169 (by decide) ?_
    refine lv_iconst (v := 0) hx hb dX1_change_201 (by decide) ?_
    exact W.iret (v := 0) hx hb hr (fun t ht hW => ⟨⟨0, (te, tb, tc, td, te, tk), rfl, by first | (simp only [pT_change]; done) | (simp only [pT_change]; rfl) | rfl, by rw [ht]; exact hP, va_K.moved hW.alike hK, hD⟩, hS.F ht⟩) hS.2.2 dX1_change_202
  · refine lv_tableIn (x := nI 10) (tgt := 172) hx hb dX1_change_1 (by decide +kernel) (by decide +kernel) rfl (by decide) ?_
    refine lv_iconst (v := 3) hx hb dX1_change_172 (by decide) ?_
    exact W.iret (v := 3) hx hb hr (fun t ht hW => ⟨⟨3, (ta, tb, tc, td, te, tk), rfl, by first | (simp only [pT_change]; done) | (simp only [pT_change]; rfl) | rfl, by rw [ht]; exact hP, va_K.moved hW.alike hK, hD⟩, hS.F ht⟩) hS.2.2 dX1_change_173
  · refine lv_tableIn (x := nI 11) (tgt := 174) hx hb dX1_change_1 (by decide +kernel) (by decide +kernel) rfl (by decide) ?_
    refine lv_aload_n hx hb dX1_change_174 rfl (lv_at hl 0 rfl) ?_
    refine lv_aload_n hx hb dX1_change_175 rfl (lv_at hl 0 rfl) ?_
    refine va_get (D := (dC, dI)) (ci := 1) (v := .long td) (C := RX1) (T := TX1) (N := 6) hx hb hts (by decide +kernel) hown hK hP 0 rfl rfl 3 (by decide) (hts (.fieldLink RX1 21 "BatchClasses$Trial" "d" "J") (by decide +kernel)) (fun _ h9 => h9) rfl dX1_change_176 ?_
    refine va_put (D := (dC, dI)) (ci := 1) (v := .long td) (ty := .long) (C := RX1) (T := TX1) (N := 6) hx hb hts (by decide +kernel) tyX1 tyX1_ok nmX1 hown hK hP hD hS 0 rfl rfl 2 (by decide) (hts (.fieldLink RX1 18 "BatchClasses$Trial" "c" "J") (by decide +kernel)) (fun _ h9 => h9) rfl (by decide +kernel) rfl rfl (Nat.le_of_ble_eq_true rfl) dX1_change_179 (fun H locs hP hD hS => ?_)
    have hP : va_P (dC, dI) vwC2 [(h1, .inr (1, [.long ta, .long tb, .long td, .long td, .long te, .int tk]))] H := hP
    have hD : va_D A [(h1, .inr (1, [.long ta, .long tb, .long td, .long td, .long te, .int tk]))] := hD
    refine lv_goto (tgt := 201) hx hb dX1_change_182 (by decide) ?_
    refine lv_iconst (v := 0) hx hb dX1_change_201 (by decide) ?_
    exact W.iret (v := 0) hx hb hr (fun t ht hW => ⟨⟨0, (ta, tb, td, td, te, tk), rfl, by first | (simp only [pT_change]; done) | (simp only [pT_change]; rfl) | rfl, by rw [ht]; exact hP, va_K.moved hW.alike hK, hD⟩, hS.F ht⟩) hS.2.2 dX1_change_202
  · refine lv_tableIn (x := nI 12) (tgt := 185) hx hb dX1_change_1 (by decide +kernel) (by decide +kernel) rfl (by decide) ?_
    refine lv_aload_n hx hb dX1_change_185 rfl (lv_at hl 0 rfl) ?_
    refine lv_aload_n hx hb dX1_change_186 rfl (lv_at hl 0 rfl) ?_
    refine va_get (D := (dC, dI)) (ci := 1) (v := .long ta) (C := RX1) (T := TX1) (N := 6) hx hb hts (by decide +kernel) hown hK hP 0 rfl rfl 0 (by decide) (hts (.fieldLink RX1 9 "BatchClasses$Trial" "a" "J") (by decide +kernel)) (fun _ h9 => h9) rfl dX1_change_187 ?_
    refine lv_aload_n hx hb dX1_change_190 rfl (lv_at hl 0 rfl) ?_
    refine va_get (D := (dC, dI)) (ci := 1) (v := .long tc) (C := RX1) (T := TX1) (N := 6) hx hb hts (by decide +kernel) hown hK hP 0 rfl rfl 2 (by decide) (hts (.fieldLink RX1 18 "BatchClasses$Trial" "c" "J") (by decide +kernel)) (fun _ h9 => h9) rfl dX1_change_191 ?_
    refine lv_lsub hx hb dX1_change_194 ?_
    refine va_put (D := (dC, dI)) (ci := 1) (v := .long (ta - tc)) (ty := .long) (C := RX1) (T := TX1) (N := 6) hx hb hts (by decide +kernel) tyX1 tyX1_ok nmX1 hown hK hP hD hS 0 rfl rfl 3 (by decide) (hts (.fieldLink RX1 21 "BatchClasses$Trial" "d" "J") (by decide +kernel)) (fun _ h9 => h9) rfl (by decide +kernel) rfl rfl (Nat.le_of_ble_eq_true rfl) dX1_change_195 (fun H locs hP hD hS => ?_)
    have hP : va_P (dC, dI) vwC2 [(h1, .inr (1, [.long ta, .long tb, .long tc, .long (ta - tc), .long te, .int tk]))] H := hP
    have hD : va_D A [(h1, .inr (1, [.long ta, .long tb, .long tc, .long (ta - tc), .long te, .int tk]))] := hD
    refine lv_goto (tgt := 201) hx hb dX1_change_198 (by decide) ?_
    refine lv_iconst (v := 0) hx hb dX1_change_201 (by decide) ?_
    exact W.iret (v := 0) hx hb hr (fun t ht hW => ⟨⟨0, (ta, tb, tc, (ta - tc), te, tk), rfl, by first | (simp only [pT_change]; done) | (simp only [pT_change]; rfl) | rfl, by rw [ht]; exact hP, va_K.moved hW.alike hK, hD⟩, hS.F ht⟩) hS.2.2 dX1_change_202
  · refine lv_tableOut (x := nI 13) (tgt := 201) hx hb dX1_change_1 (by decide +kernel) (by decide) ?_
    refine lv_iconst (v := 0) hx hb dX1_change_201 (by decide) ?_
    exact W.iret (v := 0) hx hb hr (fun t ht hW => ⟨⟨0, (ta, tb, tc, td, te, tk), rfl, by first | (simp only [pT_change]; done) | (simp only [pT_change]; rfl) | rfl, by rw [ht]; exact hP, va_K.moved hW.alike hK, hD⟩, hS.F ht⟩) hS.2.2 dX1_change_202
  · refine lv_tableOut (x := nI 14) (tgt := 201) hx hb dX1_change_1 (by decide +kernel) (by decide) ?_
    refine lv_iconst (v := 0) hx hb dX1_change_201 (by decide) ?_
    exact W.iret (v := 0) hx hb hr (fun t ht hW => ⟨⟨0, (ta, tb, tc, td, te, tk), rfl, by first | (simp only [pT_change]; done) | (simp only [pT_change]; rfl) | rfl, by rw [ht]; exact hP, va_K.moved hW.alike hK, hD⟩, hS.F ht⟩) hS.2.2 dX1_change_202
  · refine lv_tableOut (x := nI 15) (tgt := 201) hx hb dX1_change_1 (by decide +kernel) (by decide) ?_
    refine lv_iconst (v := 0) hx hb dX1_change_201 (by decide) ?_
    exact W.iret (v := 0) hx hb hr (fun t ht hW => ⟨⟨0, (ta, tb, tc, td, te, tk), rfl, by first | (simp only [pT_change]; done) | (simp only [pT_change]; rfl) | rfl, by rw [ht]; exact hP, va_K.moved hW.alike hK, hD⟩, hS.F ht⟩) hS.2.2 dX1_change_202
/-- the act at place i of a program -/
def acN (p : Int32) (i : Nat) : Nat := p.toBitVec.toNat / 2 ^ (4 * i) % 16
theorem acN_lt (p : Int32) (i : Nat) : acN p i < 16 := Nat.mod_lt _ (by decide)
theorem acN_L (p : Int32) {i : Nat} (h : i < 8) : (p.toUInt32 >>> ((nI (i * 4)).toUInt32 &&& Int32.toUInt32 31)).toInt32 &&& 15 = nI (acN p i) := by
  have hs : (((nI (i * 4)).toUInt32 &&& Int32.toUInt32 31).toBitVec % 32).toNat = 4 * i := by
    rcases (show i = 0 ∨ i = 1 ∨ i = 2 ∨ i = 3 ∨ i = 4 ∨ i = 5 ∨ i = 6 ∨ i = 7 by omega) with rfl | rfl | rfl | rfl | rfl | rfl | rfl | rfl <;> rfl
  rw [pk_and _ 4 (by decide), pk_ushr p _ _ hs]
  rfl
def pT_nx (p : Int32) (i : Nat) (a c : Int64) : Nat := if acN p i = 6 then (if c ≤ a then i + 1 else 0) else i + 1
def pT_perf : Nat → Int32 → Nat → Int64 → Int64 → Int64 → Int64 → Int64 → Int32 → Int32 × Int64 × Int64 × Int64 × Int64 × Int64 × Int32
  | 0, _, _, a, b, c, d, e, k => (4, a, b, c, d, e, k)
  | n + 1, p, i, a, b, c, d, e, k =>
    if acN p i = 13 then (0, a, b, c, d, e, k) else
    match pT_change a b c d e k (acN p i) with
    | (r, a', b', c', d', e', k') =>
      if r = 0 then
        (if pT_nx p i a c < 8 then pT_perf n p (pT_nx p i a c) a' b' c' d' e' k' else (0, a', b', c', d', e', k'))
      else (r, a', b', c', d', e', k')
def pT_perform (ta : Int64) (tb : Int64) (tc : Int64) (td : Int64) (te : Int64) (tk : Int32) (pr : Int32) (tm : Nat) : Int32 × Int64 × Int64 × Int64 × Int64 × Int64 × Int32 := pT_perf tm pr 0 ta tb tc td te tk
set_option maxHeartbeats 4000000 in
set_option maxRecDepth 100000 in
theorem k_X1_perform (l : Launch) (dC : Nat → ClassId) (dI : Nat → Nat → Nat) (cI cZ cJ : ClassId) (sz : Nat) (h1 : Nat) (ta tb tc td te : Int64) (tk pr : Int32) (tm : (Nat)) (htm : tm < 2 ^ 31) : Met l yX1_perform wsX1_perform ({ frames := 2, cells := 0, slots := 0, locals := 43 }) (va_Pc [.ref h1, .int pr, .int (nI tm)] (fun U => U.heap.size = sz ∧ va_P (dC, dI) vwC2 [(h1, .inr (1, [.long ta, .long tb, .long tc, .long td, .long te, .int tk]))] U.heap ∧ va_K (dC, dI) vwC2 [(cI, .int), (cZ, .boolean), (cJ, .long)] U ∧ va_D (fun _ => True) [(h1, .inr (1, [.long ta, .long tb, .long tc, .long td, .long te, .int tk]))])) (va_Qi (fun (r : Int32) (u : Int64 × Int64 × Int64 × Int64 × Int64 × Int32) => (r, u) = pT_perf tm pr 0 ta tb tc td te tk) (fun (u : Int64 × Int64 × Int64 × Int64 × Int64 × Int32) (t : State) => match u with | (ta', tb', tc', td', te', tk') => va_P (dC, dI) vwC2 [(h1, .inr (1, [.long ta', .long tb', .long tc', .long td', .long te', .int tk']))] t.heap ∧ va_K (dC, dI) vwC2 [(cI, .int), (cZ, .boolean), (cJ, .long)] t ∧ va_D (va_A [(h1, .inr (1, [.long ta, .long tb, .long tc, .long td, .long te, .int tk]))] sz) [(h1, .inr (1, [.long ta', .long tb', .long tc', .long td', .long te', .int tk']))]) (va_A [(h1, .inr (1, [.long ta, .long tb, .long tc, .long td, .long te, .int tk]))] sz)) 0 0 (va_A [(h1, .inr (1, [.long ta, .long tb, .long tc, .long td, .long te, .int tk]))] sz) := by
  refine Met.ofW (cc := cX1_perform) (maxL := 7) (ret := (some .int)) (by decide) rfl ?_
  intro p e s m args below meth c s₁ B hml hv
  obtain ⟨rfl, hsz, hP, hK, hD0⟩ := hv
  have hx := B.exec
  have hb := B.bytes
  have hr := B.returns
  have hts := atoms_spec (ws := wsX1_perform) B.pre
  have hown : s.vm.findClass RX1 = some m.cls := findClass_of_methodNamed B.named
  have hlocks := B.notSynchronized
  subst hsz
  have hD := hD0.self (sz := s.heap.size)
  generalize hAe : va_A [(h1, .inr (1, [.long ta, .long tb, .long tc, .long td, .long te, .int tk]))] s.heap.size = A at hD ⊢
  have hA : ∀ q : Nat, s.heap.size ≤ q → A q := fun q h => by rw [← hAe]; exact Or.inr h
  have hS : va_S A s.heap s.heap [] := va_S.rf
  have hP : va_P (dC, dI) vwC2 [(h1, .inr (1, [.long ta, .long tb, .long tc, .long td, .long te, .int tk]))] s.heap := hP
  have hl := lv_entry ([.ref h1, .int pr, .int (nI tm)]) (n := 7) (Nat.le_of_ble_eq_true rfl)
  rw [lg_entry_eq]
  generalize (lg_sl ([.ref h1, .int pr, .int (nI tm)]) ++ List.replicate (7 - (lg_sl ([.ref h1, .int pr, .int (nI tm)])).length) Slot.unset).toArray = ls at hl ⊢
  have hl : lv_has ls 7 [(0, .ref h1), (1, .int pr), (2, .int (nI tm))] := hl
  refine lv_iconst (v := 0) hx hb dX1_perform_0 (by decide) ?_
  refine lv_istore_n (lv' := [(3, .int 0), (0, .ref h1), (1, .int pr), (2, .int (nI tm))]) hx hb dX1_perform_1 rfl hl (by decide) rfl (fun ls hl => ?_)
  refine lv_iconst (v := 0) hx hb dX1_perform_2 (by decide) ?_
  refine lv_istore (lv' := [(4, .int 0), (3, .int 0), (0, .ref h1), (1, .int pr), (2, .int (nI tm))]) hx hb dX1_perform_3 hl (by decide) rfl (fun ls hl => ?_)
  have loop : ∀ (n i k : Nat) (ua ub uc ud ue : Int64) (uk : Int32) (H : Heap) (locs : List Loc) (ls : Array Slot), i < 8 → k + n = tm → pT_perf n pr i ua ub uc ud ue uk = pT_perf tm pr 0 ta tb tc td te tk → va_P (dC, dI) vwC2 [(h1, .inr (1, [.long ua, .long ub, .long uc, .long ud, .long ue, .int uk]))] H → va_D A [(h1, .inr (1, [.long ua, .long ub, .long uc, .long ud, .long ue, .int uk]))] → va_S A s.heap H locs → lv_has ls 7 [(4, .int (nI k)), (3, .int (nI i)), (0, .ref h1), (1, .int pr), (2, .int (nI tm))] → W p l e (headSpec wsX1_perform { frames := 2, cells := 0, slots := 0, locals := 43 }).room s m ([.ref h1, .int pr, .int (nI tm)] : List Value).toArray below meth c H locs 0 0 (MQ below (va_Qi (fun (r : Int32) (u : Int64 × Int64 × Int64 × Int64 × Int64 × Int32) => (r, u) = pT_perf tm pr 0 ta tb tc td te tk) (fun (u : Int64 × Int64 × Int64 × Int64 × Int64 × Int32) (t : State) => match u with | (ta', tb', tc', td', te', tk') => va_P (dC, dI) vwC2 [(h1, .inr (1, [.long ta', .long tb', .long tc', .long td', .long te', .int tk']))] t.heap ∧ va_K (dC, dI) vwC2 [(cI, .int), (cZ, .boolean), (cJ, .long)] t ∧ va_D (A) [(h1, .inr (1, [.long ta', .long tb', .long tc', .long td', .long te', .int tk']))]) (A)) ([.ref h1, .int pr, .int (nI tm)] : List Value).toArray s 0 0 A) (F0 m 5 ls []) := by
    intro n
    induction n with
    | zero =>
      intro i k ua ub uc ud ue uk H locs ls hi hk hq hP hD hS hl
      refine lv_iload hx hb dX1_perform_5 (lv_at hl 0 rfl) ?_
      refine lv_iload_n hx hb dX1_perform_7 rfl (lv_at hl 4 rfl) ?_
      refine lv_icmp_ge (tgt := 84) hx hb dX1_perform_8 (by decide) (fun c_8 => ?_) (fun c_8 => absurd (by omega) (mt (@nI_leI tm k (by omega) (by omega)  ).mpr c_8))
      refine lv_iconst (v := 4) hx hb dX1_perform_84 (by decide) ?_
      exact W.iret (v := 4) hx hb hr (fun t ht hW => ⟨⟨4, (ua, ub, uc, ud, ue, uk), rfl, by rw [← hq]; rfl, by rw [ht]; exact hP, va_K.moved hW.alike hK, hD⟩, hS.F ht⟩) hS.2.2 dX1_perform_85
    | succ n ih =>
      intro i k ua ub uc ud ue uk H locs ls hi hk hq hP hD hS hl
      refine lv_iload hx hb dX1_perform_5 (lv_at hl 0 rfl) ?_
      refine lv_iload_n hx hb dX1_perform_7 rfl (lv_at hl 4 rfl) ?_
      refine lv_icmp_ge (tgt := 84) hx hb dX1_perform_8 (by decide) (fun c_8 => absurd ((@nI_leI tm k (by omega) (by omega)  ).mp c_8) (by omega)) (fun c_8 => ?_)
      refine lv_iload_n hx hb dX1_perform_11 rfl (lv_at hl 3 rfl) ?_
      refine lv_iload_n hx hb dX1_perform_12 rfl (lv_at hl 1 rfl) ?_
      refine lv_iconst (v := 4) hx hb dX1_perform_13 (by decide) ?_
      refine lv_imul hx hb dX1_perform_14 ?_
      refine lv_topi (fun z_14 ez_14 => ?_)
      obtain rfl : z_14 = nI (i * 4) := ez_14.trans (pk_mul i 4)
      refine lv_iushr (v := (pr.toUInt32 >>> ((nI (i * 4)).toUInt32 &&& Int32.toUInt32 31)).toInt32) hx hb dX1_perform_15 rfl ?_
      refine lv_bipush (v := 15) hx hb dX1_perform_16 (by decide) ?_
      refine lv_iand hx hb dX1_perform_18 ?_
      refine lv_topi (fun z_19 ez_19 => ?_)
      obtain rfl : z_19 = nI (acN pr i) := ez_19.trans (acN_L pr hi)
      have hac := acN_lt pr i
      refine lv_istore (lv' := [(5, .int (nI (acN pr i))), (4, .int (nI k)), (3, .int (nI i)), (0, .ref h1), (1, .int pr), (2, .int (nI tm))]) hx hb dX1_perform_19 hl (by decide) rfl (fun ls hl => ?_)
      refine lv_iinc (v := (nI (i + 1))) (lv' := [(3, .int (nI (i + 1))), (5, .int (nI (acN pr i))), (4, .int (nI k)), (0, .ref h1), (1, .int pr), (2, .int (nI tm))]) hx hb dX1_perform_21 hl (k := 2) rfl (nI_add i 1) (by decide) rfl (fun ls hl => ?_)
      refine lv_iload hx hb dX1_perform_24 (lv_at hl 1 rfl) ?_
      refine lv_bipush (v := 13) hx hb dX1_perform_26 (by decide) ?_
      refine lv_icmp_ne (tgt := 33) hx hb dX1_perform_28 (by decide) (fun c_28 => ?_) (fun c_28 => ?_)
      · have c_28 : ¬ ((acN pr i) = 13) := mt (@nI_eq (acN pr i) 13 (by omega) (by omega)  ).mpr c_28
        refine lv_iload hx hb dX1_perform_33 (lv_at hl 1 rfl) ?_
        refine lv_bipush (v := 6) hx hb dX1_perform_35 (by decide) ?_
        refine lv_icmp_ne (tgt := 54) hx hb dX1_perform_37 (by decide) (fun c_37 => ?_) (fun c_37 => ?_)
        · have c_37 : ¬ ((acN pr i) = 6) := mt (@nI_eq (acN pr i) 6 (by omega) (by omega)  ).mpr c_37
          refine lv_aload_n hx hb dX1_perform_54 rfl (lv_at hl 3 rfl) ?_
          refine lv_iload hx hb dX1_perform_55 (lv_at hl 1 rfl) ?_
          have hPc := hP.sub (ws' := [(h1, .inr (1, [.long ua, .long ub, .long uc, .long ud, .long ue, .int uk]))]) [0] rfl
          have hDc := hD.sub (ws' := [(h1, .inr (1, [.long ua, .long ub, .long uc, .long ud, .long ue, .int uk]))]) [0] (by decide) rfl
          have hFc := va_free (wc := [(h1, .inr (1, [.long ua, .long ub, .long uc, .long ud, .long ue, .int uk]))]) hD hS hA [0] rfl
          refine va_calli (va_runV (As := [.int (nI (acN pr i))]) (rest := []) ⟨hx, hb, hml, hown, hts⟩ (k_X1_change l dC dI cI cZ cJ H.size h1 ua ub uc ud ue uk (acN pr i) hac) (cwV 1 hts gX1_perform_X1_change rfl rfl rfl (by decide +kernel) ⟨Nat.le_of_ble_eq_true rfl, Nat.le_of_ble_eq_true rfl⟩) ⟨fun a U g mk q => by obtain ⟨q0, q1, qP, qK, qD⟩ := q; exact ⟨q0, q1, qP, va_K.moved (u := U) (U := U.calling g mk a) (Vm.Alike.refl U.vm) qK, qD⟩, va_recv hK hPc (ci := 1) (q0 := 0) rfl rfl, fun U hU hW => ⟨rfl, by rw [hU], by rw [hU]; exact hPc, va_K.moved hW.alike hK, hDc.weaken (fun _ _ _ _ => trivial)⟩⟩ rfl rfl hl.1 rfl (lv_room (Nat.le_of_ble_eq_true rfl)) dX1_perform_57 ⟨Nat.zero_le _, Nat.zero_le _⟩) hS (fun q _ h => hFc q h) hFc (fun r_57 u t H1 locs ht hvm hw_57 hB hz1 hk1 hS => ?_)
          obtain ⟨ta_57, tb_57, tc_57, td_57, te_57, tk_57⟩ := u
          obtain ⟨hP1, hK1, hD1⟩ := hB
          rw [ht] at hP1
          try dsimp only at hw_57
          obtain ⟨hP, hD⟩ := va_join (wr := []) (w1 := [(h1, .inr (1, [.long ta_57, .long tb_57, .long tc_57, .long td_57, .long te_57, .int tk_57]))]) hP hD [0] [] rfl rfl (by decide) (by decide) hk1 hFc hP1 hD1
          generalize H1 = H at hP hS ⊢
          have hP : va_P (dC, dI) vwC2 [(h1, .inr (1, [.long ta_57, .long tb_57, .long tc_57, .long td_57, .long te_57, .int tk_57]))] H := hP.sub [0] rfl
          have hD : va_D A [(h1, .inr (1, [.long ta_57, .long tb_57, .long tc_57, .long td_57, .long te_57, .int tk_57]))] := hD.sub [0] (by decide) rfl
          refine lv_istore (lv' := [(6, .int r_57), (3, .int (nI (i + 1))), (5, .int (nI (acN pr i))), (4, .int (nI k)), (0, .ref h1), (1, .int pr), (2, .int (nI tm))]) hx hb dX1_perform_60 hl (by decide) rfl (fun ls hl => ?_)
          refine lv_iload hx hb dX1_perform_62 (lv_at hl 0 rfl) ?_
          refine lv_if_eq (tgt := 70) hx hb dX1_perform_64 (by decide) (fun c_64 => ?_) (fun c_64 => ?_)
          · refine lv_iload_n hx hb dX1_perform_70 rfl (lv_at hl 1 rfl) ?_
            refine lv_bipush (v := 8) hx hb dX1_perform_71 (by decide) ?_
            refine lv_icmp_lt (tgt := 78) hx hb dX1_perform_73 (by decide) (fun c_73 => ?_) (fun c_73 => ?_)
            · have c_73 : (i + 1) < 8 := (@nI_ltI (i + 1) 8 (by omega) (by omega)  ).mp c_73
              refine lv_iinc (v := (nI (k + 1))) (lv' := [(4, .int (nI (k + 1))), (6, .int r_57), (3, .int (nI (i + 1))), (5, .int (nI (acN pr i))), (0, .ref h1), (1, .int pr), (2, .int (nI tm))]) hx hb dX1_perform_78 hl (k := 3) rfl (nI_add k 1) (by decide) rfl (fun ls hl => ?_)
              refine lv_goto (tgt := 5) hx hb dX1_perform_81 (by decide) ?_
              exact ih (i + 1) (k + 1) ta_57 tb_57 tc_57 td_57 te_57 tk_57 _ _ ls (by omega) (by omega) (by rw [← hq]; conv => { rhs; rw [pT_perf] }; simp [pT_nx, if_neg c_28, if_neg c_37, ← hw_57, if_pos c_64, if_pos c_73]) hP hD hS (lv_sub hl [0, 2, 4, 5, 6] rfl)
            · have c_73 : ¬ ((i + 1) < 8) := mt (@nI_ltI (i + 1) 8 (by omega) (by omega)  ).mpr c_73
              refine lv_iconst (v := 0) hx hb dX1_perform_76 (by decide) ?_
              exact W.iret (v := 0) hx hb hr (fun t ht hW => ⟨⟨0, (ta_57, tb_57, tc_57, td_57, te_57, tk_57), rfl, by rw [← hq]; conv => { rhs; rw [pT_perf] }; simp [pT_nx, if_neg c_28, if_neg c_37, ← hw_57, if_pos c_64, if_neg c_73], by rw [ht]; exact hP, va_K.moved hW.alike hK, hD⟩, hS.F ht⟩) hS.2.2 dX1_perform_77
          · refine lv_iload hx hb dX1_perform_67 (lv_at hl 0 rfl) ?_
            exact W.iret (v := r_57) hx hb hr (fun t ht hW => ⟨⟨r_57, (ta_57, tb_57, tc_57, td_57, te_57, tk_57), rfl, by rw [← hq]; conv => { rhs; rw [pT_perf] }; simp [pT_nx, if_neg c_28, if_neg c_37, ← hw_57, if_neg c_64], by rw [ht]; exact hP, va_K.moved hW.alike hK, hD⟩, hS.F ht⟩) hS.2.2 dX1_perform_69
        · have c_37 : (acN pr i) = 6 := (@nI_eq (acN pr i) 6 (by omega) (by omega)  ).mp c_37
          refine lv_aload_n hx hb dX1_perform_40 rfl (lv_at hl 3 rfl) ?_
          refine va_get (D := (dC, dI)) (ci := 1) (v := .long ua) (C := RX1) (T := TX1) (N := 6) hx hb hts (by decide +kernel) hown hK hP 0 rfl rfl 0 (by decide) (hts (.fieldLink RX1 9 "BatchClasses$Trial" "a" "J") (by decide +kernel)) (fun _ h9 => h9) rfl dX1_perform_41 ?_
          refine lv_aload_n hx hb dX1_perform_44 rfl (lv_at hl 3 rfl) ?_
          refine va_get (D := (dC, dI)) (ci := 1) (v := .long uc) (C := RX1) (T := TX1) (N := 6) hx hb hts (by decide +kernel) hown hK hP 0 rfl rfl 2 (by decide) (hts (.fieldLink RX1 18 "BatchClasses$Trial" "c" "J") (by decide +kernel)) (fun _ h9 => h9) rfl dX1_perform_45 ?_
          refine W.lcmp hx hb dX1_perform_48 ?_
          refine lv_if_ge (tgt := 54) hx hb dX1_perform_49 (by decide) (fun c_49 => ?_) (fun c_49 => ?_)
          · have c_49 : uc ≤ ua := (lg_cmp_ge ua uc).mp c_49
            refine lv_aload_n hx hb dX1_perform_54 rfl (lv_at hl 3 rfl) ?_
            refine lv_iload hx hb dX1_perform_55 (lv_at hl 1 rfl) ?_
            have hPc := hP.sub (ws' := [(h1, .inr (1, [.long ua, .long ub, .long uc, .long ud, .long ue, .int uk]))]) [0] rfl
            have hDc := hD.sub (ws' := [(h1, .inr (1, [.long ua, .long ub, .long uc, .long ud, .long ue, .int uk]))]) [0] (by decide) rfl
            have hFc := va_free (wc := [(h1, .inr (1, [.long ua, .long ub, .long uc, .long ud, .long ue, .int uk]))]) hD hS hA [0] rfl
            refine va_calli (va_runV (As := [.int (nI (acN pr i))]) (rest := []) ⟨hx, hb, hml, hown, hts⟩ (k_X1_change l dC dI cI cZ cJ H.size h1 ua ub uc ud ue uk (acN pr i) hac) (cwV 1 hts gX1_perform_X1_change rfl rfl rfl (by decide +kernel) ⟨Nat.le_of_ble_eq_true rfl, Nat.le_of_ble_eq_true rfl⟩) ⟨fun a U g mk q => by obtain ⟨q0, q1, qP, qK, qD⟩ := q; exact ⟨q0, q1, qP, va_K.moved (u := U) (U := U.calling g mk a) (Vm.Alike.refl U.vm) qK, qD⟩, va_recv hK hPc (ci := 1) (q0 := 0) rfl rfl, fun U hU hW => ⟨rfl, by rw [hU], by rw [hU]; exact hPc, va_K.moved hW.alike hK, hDc.weaken (fun _ _ _ _ => trivial)⟩⟩ rfl rfl hl.1 rfl (lv_room (Nat.le_of_ble_eq_true rfl)) dX1_perform_57 ⟨Nat.zero_le _, Nat.zero_le _⟩) hS (fun q _ h => hFc q h) hFc (fun r_57 u t H1 locs ht hvm hw_57 hB hz1 hk1 hS => ?_)
            obtain ⟨ta_57, tb_57, tc_57, td_57, te_57, tk_57⟩ := u
            obtain ⟨hP1, hK1, hD1⟩ := hB
            rw [ht] at hP1
            try dsimp only at hw_57
            obtain ⟨hP, hD⟩ := va_join (wr := []) (w1 := [(h1, .inr (1, [.long ta_57, .long tb_57, .long tc_57, .long td_57, .long te_57, .int tk_57]))]) hP hD [0] [] rfl rfl (by decide) (by decide) hk1 hFc hP1 hD1
            generalize H1 = H at hP hS ⊢
            have hP : va_P (dC, dI) vwC2 [(h1, .inr (1, [.long ta_57, .long tb_57, .long tc_57, .long td_57, .long te_57, .int tk_57]))] H := hP.sub [0] rfl
            have hD : va_D A [(h1, .inr (1, [.long ta_57, .long tb_57, .long tc_57, .long td_57, .long te_57, .int tk_57]))] := hD.sub [0] (by decide) rfl
            refine lv_istore (lv' := [(6, .int r_57), (3, .int (nI (i + 1))), (5, .int (nI (acN pr i))), (4, .int (nI k)), (0, .ref h1), (1, .int pr), (2, .int (nI tm))]) hx hb dX1_perform_60 hl (by decide) rfl (fun ls hl => ?_)
            refine lv_iload hx hb dX1_perform_62 (lv_at hl 0 rfl) ?_
            refine lv_if_eq (tgt := 70) hx hb dX1_perform_64 (by decide) (fun c_64 => ?_) (fun c_64 => ?_)
            · refine lv_iload_n hx hb dX1_perform_70 rfl (lv_at hl 1 rfl) ?_
              refine lv_bipush (v := 8) hx hb dX1_perform_71 (by decide) ?_
              refine lv_icmp_lt (tgt := 78) hx hb dX1_perform_73 (by decide) (fun c_73 => ?_) (fun c_73 => ?_)
              · have c_73 : (i + 1) < 8 := (@nI_ltI (i + 1) 8 (by omega) (by omega)  ).mp c_73
                refine lv_iinc (v := (nI (k + 1))) (lv' := [(4, .int (nI (k + 1))), (6, .int r_57), (3, .int (nI (i + 1))), (5, .int (nI (acN pr i))), (0, .ref h1), (1, .int pr), (2, .int (nI tm))]) hx hb dX1_perform_78 hl (k := 3) rfl (nI_add k 1) (by decide) rfl (fun ls hl => ?_)
                refine lv_goto (tgt := 5) hx hb dX1_perform_81 (by decide) ?_
                exact ih (i + 1) (k + 1) ta_57 tb_57 tc_57 td_57 te_57 tk_57 _ _ ls (by omega) (by omega) (by rw [← hq]; conv => { rhs; rw [pT_perf] }; simp [pT_nx, if_neg c_28, if_pos c_37, if_pos c_49, ← hw_57, if_pos c_64, if_pos c_73]) hP hD hS (lv_sub hl [0, 2, 4, 5, 6] rfl)
              · have c_73 : ¬ ((i + 1) < 8) := mt (@nI_ltI (i + 1) 8 (by omega) (by omega)  ).mpr c_73
                refine lv_iconst (v := 0) hx hb dX1_perform_76 (by decide) ?_
                exact W.iret (v := 0) hx hb hr (fun t ht hW => ⟨⟨0, (ta_57, tb_57, tc_57, td_57, te_57, tk_57), rfl, by rw [← hq]; conv => { rhs; rw [pT_perf] }; simp [pT_nx, if_neg c_28, if_pos c_37, if_pos c_49, ← hw_57, if_pos c_64, if_neg c_73], by rw [ht]; exact hP, va_K.moved hW.alike hK, hD⟩, hS.F ht⟩) hS.2.2 dX1_perform_77
            · refine lv_iload hx hb dX1_perform_67 (lv_at hl 0 rfl) ?_
              exact W.iret (v := r_57) hx hb hr (fun t ht hW => ⟨⟨r_57, (ta_57, tb_57, tc_57, td_57, te_57, tk_57), rfl, by rw [← hq]; conv => { rhs; rw [pT_perf] }; simp [pT_nx, if_neg c_28, if_pos c_37, if_pos c_49, ← hw_57, if_neg c_64], by rw [ht]; exact hP, va_K.moved hW.alike hK, hD⟩, hS.F ht⟩) hS.2.2 dX1_perform_69
          · have c_49 : ¬ (uc ≤ ua) := mt (lg_cmp_ge ua uc).mpr c_49
            refine lv_iconst (v := 0) hx hb dX1_perform_52 (by decide) ?_
            refine lv_istore_n (lv' := [(3, .int 0), (5, .int (nI (acN pr i))), (4, .int (nI k)), (0, .ref h1), (1, .int pr), (2, .int (nI tm))]) hx hb dX1_perform_53 rfl hl (by decide) rfl (fun ls hl => ?_)
            refine lv_aload_n hx hb dX1_perform_54 rfl (lv_at hl 3 rfl) ?_
            refine lv_iload hx hb dX1_perform_55 (lv_at hl 1 rfl) ?_
            have hPc := hP.sub (ws' := [(h1, .inr (1, [.long ua, .long ub, .long uc, .long ud, .long ue, .int uk]))]) [0] rfl
            have hDc := hD.sub (ws' := [(h1, .inr (1, [.long ua, .long ub, .long uc, .long ud, .long ue, .int uk]))]) [0] (by decide) rfl
            have hFc := va_free (wc := [(h1, .inr (1, [.long ua, .long ub, .long uc, .long ud, .long ue, .int uk]))]) hD hS hA [0] rfl
            refine va_calli (va_runV (As := [.int (nI (acN pr i))]) (rest := []) ⟨hx, hb, hml, hown, hts⟩ (k_X1_change l dC dI cI cZ cJ H.size h1 ua ub uc ud ue uk (acN pr i) hac) (cwV 1 hts gX1_perform_X1_change rfl rfl rfl (by decide +kernel) ⟨Nat.le_of_ble_eq_true rfl, Nat.le_of_ble_eq_true rfl⟩) ⟨fun a U g mk q => by obtain ⟨q0, q1, qP, qK, qD⟩ := q; exact ⟨q0, q1, qP, va_K.moved (u := U) (U := U.calling g mk a) (Vm.Alike.refl U.vm) qK, qD⟩, va_recv hK hPc (ci := 1) (q0 := 0) rfl rfl, fun U hU hW => ⟨rfl, by rw [hU], by rw [hU]; exact hPc, va_K.moved hW.alike hK, hDc.weaken (fun _ _ _ _ => trivial)⟩⟩ rfl rfl hl.1 rfl (lv_room (Nat.le_of_ble_eq_true rfl)) dX1_perform_57 ⟨Nat.zero_le _, Nat.zero_le _⟩) hS (fun q _ h => hFc q h) hFc (fun r_57 u t H1 locs ht hvm hw_57 hB hz1 hk1 hS => ?_)
            obtain ⟨ta_57, tb_57, tc_57, td_57, te_57, tk_57⟩ := u
            obtain ⟨hP1, hK1, hD1⟩ := hB
            rw [ht] at hP1
            try dsimp only at hw_57
            obtain ⟨hP, hD⟩ := va_join (wr := []) (w1 := [(h1, .inr (1, [.long ta_57, .long tb_57, .long tc_57, .long td_57, .long te_57, .int tk_57]))]) hP hD [0] [] rfl rfl (by decide) (by decide) hk1 hFc hP1 hD1
            generalize H1 = H at hP hS ⊢
            have hP : va_P (dC, dI) vwC2 [(h1, .inr (1, [.long ta_57, .long tb_57, .long tc_57, .long td_57, .long te_57, .int tk_57]))] H := hP.sub [0] rfl
            have hD : va_D A [(h1, .inr (1, [.long ta_57, .long tb_57, .long tc_57, .long td_57, .long te_57, .int tk_57]))] := hD.sub [0] (by decide) rfl
            refine lv_istore (lv' := [(6, .int r_57), (3, .int 0), (5, .int (nI (acN pr i))), (4, .int (nI k)), (0, .ref h1), (1, .int pr), (2, .int (nI tm))]) hx hb dX1_perform_60 hl (by decide) rfl (fun ls hl => ?_)
            refine lv_iload hx hb dX1_perform_62 (lv_at hl 0 rfl) ?_
            refine lv_if_eq (tgt := 70) hx hb dX1_perform_64 (by decide) (fun c_64 => ?_) (fun c_64 => ?_)
            · refine lv_iload_n hx hb dX1_perform_70 rfl (lv_at hl 1 rfl) ?_
              refine lv_bipush (v := 8) hx hb dX1_perform_71 (by decide) ?_
              refine lv_icmp_lt (tgt := 78) hx hb dX1_perform_73 (by decide) (fun c_73 => ?_) (fun c_73 => absurd (by decide) c_73)
              refine lv_iinc (v := (nI (k + 1))) (lv' := [(4, .int (nI (k + 1))), (6, .int r_57), (3, .int 0), (5, .int (nI (acN pr i))), (0, .ref h1), (1, .int pr), (2, .int (nI tm))]) hx hb dX1_perform_78 hl (k := 3) rfl (nI_add k 1) (by decide) rfl (fun ls hl => ?_)
              refine lv_goto (tgt := 5) hx hb dX1_perform_81 (by decide) ?_
              exact ih 0 (k + 1) ta_57 tb_57 tc_57 td_57 te_57 tk_57 _ _ ls (by omega) (by omega) (by rw [← hq]; conv => { rhs; rw [pT_perf] }; simp [pT_nx, if_neg c_28, if_pos c_37, if_neg c_49, ← hw_57, if_pos c_64]) hP hD hS (lv_sub hl [0, 2, 4, 5, 6] rfl)
            · refine lv_iload hx hb dX1_perform_67 (lv_at hl 0 rfl) ?_
              exact W.iret (v := r_57) hx hb hr (fun t ht hW => ⟨⟨r_57, (ta_57, tb_57, tc_57, td_57, te_57, tk_57), rfl, by rw [← hq]; conv => { rhs; rw [pT_perf] }; simp [pT_nx, if_neg c_28, if_pos c_37, if_neg c_49, ← hw_57, if_neg c_64], by rw [ht]; exact hP, va_K.moved hW.alike hK, hD⟩, hS.F ht⟩) hS.2.2 dX1_perform_69
      · have c_28 : (acN pr i) = 13 := (@nI_eq (acN pr i) 13 (by omega) (by omega)  ).mp c_28
        refine lv_iconst (v := 0) hx hb dX1_perform_31 (by decide) ?_
        exact W.iret (v := 0) hx hb hr (fun t ht hW => ⟨⟨0, (ua, ub, uc, ud, ue, uk), rfl, by rw [← hq]; conv => { rhs; rw [pT_perf] }; simp [pT_nx, if_pos c_28], by rw [ht]; exact hP, va_K.moved hW.alike hK, hD⟩, hS.F ht⟩) hS.2.2 dX1_perform_32
  exact loop tm 0 0 ta tb tc td te tk _ _ ls (by omega) (by omega) rfl hP hD hS (lv_sub hl [0, 1, 2, 3, 4] rfl)
set_option maxHeartbeats 4000000 in
set_option maxRecDepth 100000 in
theorem k_X1_init (l : Launch) (dC : Nat → ClassId) (dI : Nat → Nat → Nat) (cI cZ cJ : ClassId) (sz : Nat) (h1 : Nat) : Met l yX1_init wsX1_init ({ frames := 1, cells := 0, slots := 0, locals := 12 }) (va_Pc [.ref h1] (fun U => U.heap.size = sz ∧ va_P (dC, dI) vwC2 [(h1, .inr (1, [.long 0, .long 0, .long 0, .long 0, .long 0, .int 0]))] U.heap ∧ va_K (dC, dI) vwC2 [(cI, .int), (cZ, .boolean), (cJ, .long)] U ∧ va_D (fun _ => True) [(h1, .inr (1, [.long 0, .long 0, .long 0, .long 0, .long 0, .int 0]))])) (va_Qv (fun (u : Unit) => True) (fun (_ : Unit) (t : State) => va_P (dC, dI) vwC2 [(h1, .inr (1, [.long 0, .long 0, .long 0, .long 0, .long 0, .int 0]))] t.heap ∧ va_K (dC, dI) vwC2 [(cI, .int), (cZ, .boolean), (cJ, .long)] t ∧ va_D (va_A [(h1, .inr (1, [.long 0, .long 0, .long 0, .long 0, .long 0, .int 0]))] sz) [(h1, .inr (1, [.long 0, .long 0, .long 0, .long 0, .long 0, .int 0]))]) (va_A [(h1, .inr (1, [.long 0, .long 0, .long 0, .long 0, .long 0, .int 0]))] sz)) 0 0 (va_A [(h1, .inr (1, [.long 0, .long 0, .long 0, .long 0, .long 0, .int 0]))] sz) := by
  refine Met.ofW (cc := cX1_init) (maxL := 1) (ret := none) (by decide) rfl ?_
  intro p e s m args below meth c s₁ B hml hv
  obtain ⟨rfl, hsz, hP, hK, hD0⟩ := hv
  have hx := B.exec
  have hb := B.bytes
  have hr := B.returns
  have hts := atoms_spec (ws := wsX1_init) B.pre
  have hown : s.vm.findClass RX1 = some m.cls := findClass_of_methodNamed B.named
  have hlocks := B.notSynchronized
  have hin : meth.name = "<init>" := (name_of_methodNamed B.named B.method).1
  subst hsz
  have hD := hD0.self (sz := s.heap.size)
  generalize hAe : va_A [(h1, .inr (1, [.long 0, .long 0, .long 0, .long 0, .long 0, .int 0]))] s.heap.size = A at hD ⊢
  have hA : ∀ q : Nat, s.heap.size ≤ q → A q := fun q h => by rw [← hAe]; exact Or.inr h
  have hS : va_S A s.heap s.heap [] := va_S.rf
  have hP : va_P (dC, dI) vwC2 [(h1, .inr (1, [.long 0, .long 0, .long 0, .long 0, .long 0, .int 0]))] s.heap := hP
  have hl := lv_entry ([.ref h1]) (n := 1) (Nat.le_of_ble_eq_true rfl)
  rw [lg_entry_eq]
  generalize (lg_sl ([.ref h1]) ++ List.replicate (1 - (lg_sl ([.ref h1])).length) Slot.unset).toArray = ls at hl ⊢
  have hl : lv_has ls 1 [(0, .ref h1)] := hl
  refine lv_aload_n hx hb dX1_init_0 rfl (lv_at hl 0 rfl) ?_
  refine W.objInit hx hb hown (hts (.methodLink RX1 3 objectInit) (by decide +kernel)) (hts (.instanceMethod objectInit) (by decide +kernel)) (hts _ (List.mem_of_getElem? (i := 3) rfl)) rfl (by rw [hml]; exact hl.1) rfl dX1_init_1 (Nat.le_of_ble_eq_true rfl) (Nat.le_of_ble_eq_true rfl) ?_
  refine W.eq (g2 := F0 m 4 ls []) rfl ?_
  refine lv_aload_n hx hb dX1_init_4 rfl (lv_at hl 0 rfl) ?_
  refine lv_lconst (v := 0) hx hb dX1_init_5 (by decide) ?_
  refine va_put (D := (dC, dI)) (ci := 1) (v := .long 0) (ty := .long) (C := RX1) (T := TX1) (N := 6) hx hb hts (by decide +kernel) tyX1 tyX1_ok nmX1 hown hK hP hD hS 0 rfl rfl 0 (by decide) (hts (.fieldLink RX1 9 "BatchClasses$Trial" "a" "J") (by decide +kernel)) (fun _ h9 => h9) rfl (by decide +kernel) rfl rfl (Nat.le_of_ble_eq_true rfl) dX1_init_6 (fun H locs hP hD hS => ?_)
  have hP : va_P (dC, dI) vwC2 [(h1, .inr (1, [.long 0, .long 0, .long 0, .long 0, .long 0, .int 0]))] H := hP
  have hD : va_D A [(h1, .inr (1, [.long 0, .long 0, .long 0, .long 0, .long 0, .int 0]))] := hD
  refine lv_aload_n hx hb dX1_init_9 rfl (lv_at hl 0 rfl) ?_
  refine lv_lconst (v := 0) hx hb dX1_init_10 (by decide) ?_
  refine va_put (D := (dC, dI)) (ci := 1) (v := .long 0) (ty := .long) (C := RX1) (T := TX1) (N := 6) hx hb hts (by decide +kernel) tyX1 tyX1_ok nmX1 hown hK hP hD hS 0 rfl rfl 1 (by decide) (hts (.fieldLink RX1 15 "BatchClasses$Trial" "b" "J") (by decide +kernel)) (fun _ h9 => h9) rfl (by decide +kernel) rfl rfl (Nat.le_of_ble_eq_true rfl) dX1_init_11 (fun H locs hP hD hS => ?_)
  have hP : va_P (dC, dI) vwC2 [(h1, .inr (1, [.long 0, .long 0, .long 0, .long 0, .long 0, .int 0]))] H := hP
  have hD : va_D A [(h1, .inr (1, [.long 0, .long 0, .long 0, .long 0, .long 0, .int 0]))] := hD
  refine lv_aload_n hx hb dX1_init_14 rfl (lv_at hl 0 rfl) ?_
  refine lv_lconst (v := 0) hx hb dX1_init_15 (by decide) ?_
  refine va_put (D := (dC, dI)) (ci := 1) (v := .long 0) (ty := .long) (C := RX1) (T := TX1) (N := 6) hx hb hts (by decide +kernel) tyX1 tyX1_ok nmX1 hown hK hP hD hS 0 rfl rfl 2 (by decide) (hts (.fieldLink RX1 18 "BatchClasses$Trial" "c" "J") (by decide +kernel)) (fun _ h9 => h9) rfl (by decide +kernel) rfl rfl (Nat.le_of_ble_eq_true rfl) dX1_init_16 (fun H locs hP hD hS => ?_)
  have hP : va_P (dC, dI) vwC2 [(h1, .inr (1, [.long 0, .long 0, .long 0, .long 0, .long 0, .int 0]))] H := hP
  have hD : va_D A [(h1, .inr (1, [.long 0, .long 0, .long 0, .long 0, .long 0, .int 0]))] := hD
  refine lv_aload_n hx hb dX1_init_19 rfl (lv_at hl 0 rfl) ?_
  refine lv_lconst (v := 0) hx hb dX1_init_20 (by decide) ?_
  refine va_put (D := (dC, dI)) (ci := 1) (v := .long 0) (ty := .long) (C := RX1) (T := TX1) (N := 6) hx hb hts (by decide +kernel) tyX1 tyX1_ok nmX1 hown hK hP hD hS 0 rfl rfl 3 (by decide) (hts (.fieldLink RX1 21 "BatchClasses$Trial" "d" "J") (by decide +kernel)) (fun _ h9 => h9) rfl (by decide +kernel) rfl rfl (Nat.le_of_ble_eq_true rfl) dX1_init_21 (fun H locs hP hD hS => ?_)
  have hP : va_P (dC, dI) vwC2 [(h1, .inr (1, [.long 0, .long 0, .long 0, .long 0, .long 0, .int 0]))] H := hP
  have hD : va_D A [(h1, .inr (1, [.long 0, .long 0, .long 0, .long 0, .long 0, .int 0]))] := hD
  refine lv_aload_n hx hb dX1_init_24 rfl (lv_at hl 0 rfl) ?_
  refine lv_lconst (v := 0) hx hb dX1_init_25 (by decide) ?_
  refine va_put (D := (dC, dI)) (ci := 1) (v := .long 0) (ty := .long) (C := RX1) (T := TX1) (N := 6) hx hb hts (by decide +kernel) tyX1 tyX1_ok nmX1 hown hK hP hD hS 0 rfl rfl 4 (by decide) (hts (.fieldLink RX1 24 "BatchClasses$Trial" "cell" "J") (by decide +kernel)) (fun _ h9 => h9) rfl (by decide +kernel) rfl rfl (Nat.le_of_ble_eq_true rfl) dX1_init_26 (fun H locs hP hD hS => ?_)
  have hP : va_P (dC, dI) vwC2 [(h1, .inr (1, [.long 0, .long 0, .long 0, .long 0, .long 0, .int 0]))] H := hP
  have hD : va_D A [(h1, .inr (1, [.long 0, .long 0, .long 0, .long 0, .long 0, .int 0]))] := hD
  refine lv_aload_n hx hb dX1_init_29 rfl (lv_at hl 0 rfl) ?_
  refine lv_iconst (v := 0) hx hb dX1_init_30 (by decide) ?_
  refine va_put (D := (dC, dI)) (ci := 1) (v := .int 0) (ty := .boolean) (C := RX1) (T := TX1) (N := 6) hx hb hts (by decide +kernel) tyX1 tyX1_ok nmX1 hown hK hP hD hS 0 rfl rfl 5 (by decide) (hts (.fieldLink RX1 27 "BatchClasses$Trial" "locks" "Z") (by decide +kernel)) (fun _ h9 => h9) rfl (by decide +kernel) rfl rfl (Nat.le_of_ble_eq_true rfl) dX1_init_31 (fun H locs hP hD hS => ?_)
  have hP : va_P (dC, dI) vwC2 [(h1, .inr (1, [.long 0, .long 0, .long 0, .long 0, .long 0, .int 0]))] H := hP
  have hD : va_D A [(h1, .inr (1, [.long 0, .long 0, .long 0, .long 0, .long 0, .int 0]))] := hD
  exact W.vret hx hb hr (fun t ht hW => ⟨⟨(), rfl, trivial, by rw [ht]; exact hP, va_K.moved hW.alike hK, hD⟩, hS.F ht⟩) hS.2.2 dX1_init_34
end
