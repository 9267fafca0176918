/-! ===== THE MEMORY. What the law has made is numbered 0, 1, .. in the order of its making. A shape S: how many cells; of each its kind (a class's number below 32, or an array's sort from 32 on) and length; its references. The ints stand in I, the longs in J, by cell and place. ===== -/
abbrev CT : Type := State × Array Value × Nat × Nat × (Nat → Int32) × va_G × (Nat → ClassId)
abbrev ShT : Type := Nat × (Nat → Nat × Nat) × (Nat → Nat → Option Nat)
abbrev DI : Type := Nat → Nat → Int32
abbrev DJ : Type := Nat → Nat → Int64
abbrev cS (C : CT) : State := C.1
abbrev cG (C : CT) : Array Value := C.2.1
abbrev cB (C : CT) : Nat := C.2.2.1
abbrev cN (C : CT) : Nat := C.2.2.2.1
abbrev cX (C : CT) : Nat → Int32 := C.2.2.2.2.1
abbrev cD (C : CT) : va_G := C.2.2.2.2.2.1
abbrev cA (C : CT) : Nat → ClassId := C.2.2.2.2.2.2
abbrev c0 (C : CT) : Nat := C.1.heap.size
def fR (C : CT) (r : Option Nat) : Value := match r with
  | some k => .ref (c0 C + k)
  | none => .null
def fV (C : CT) (S : ShT) (I : DI) (J : DJ) (k j : Nat) (ty : FieldType) : Value := match ty with
  | .long => .long (J k j)
  | .object _ => fR C (S.2.2 k j)
  | .array _ => fR C (S.2.2 k j)
  | _ => .int (I k j)
def fL (C : CT) (S : ShT) (I : DI) (J : DJ) (k t : Nat) : List Value := (List.range (kF t)).map (fun j => fV C S I J k j (kY t j))
def fA (C : CT) (S : ShT) (I : DI) (J : DJ) (k t n : Nat) : vp_A := (n, if t = 34 then .inr (.inl (J k)) else if t < 34 then .inl (I k) else .inr (.inr (.inr (.inr (fun j => (S.2.2 k j).map (fun r => c0 C + r))))))
def cel (C : CT) (S : ShT) (I : DI) (J : DJ) (k : Nat) : va_E := if (S.2.1 k).1 < 32 then .inr ((S.2.1 k).1, fL C S I J k (S.2.1 k).1) else .inl (cA C (S.2.1 k).1, fA C S I J k (S.2.1 k).1 (S.2.1 k).2)
def MR (C : CT) (S : ShT) (I : DI) (J : DJ) (H : Heap) : Prop := H.size = c0 C + S.1 ∧ ∀ k, k < S.1 → va_at (cD C) vwCl (c0 C + k, cel C S I J k) H
def tgT : Nat → FieldType := fun t => match t with
  | 32 => .int
  | 33 => .boolean
  | 34 => .long
  | 35 => .object "FileIndexer$Entry"
  | 36 => .object "FileIndexer$Term"
  | _ => .array .int
/-- a value of the memory as the machine has it; the script is '.retAddr 0' -/
def cv (C : CT) : Value → Value := fun v => match v with
  | .ref k => .ref (c0 C + k)
  | .retAddr _ => .ref (cB C)
  | v => v
theorem cv_cat (C : CT) (v : Value) : (cv C v).category = v.category := by cases v <;> rfl
def GG (C : CT) (U : State) : Prop := (cS C).WarmedH U.vm ∧ ∀ q, q < c0 C → U.heap[q]? = (cS C).heap[q]?
def OKC (C : CT) (l : Launch) : Prop := l.flags = flags0 ∧ (∀ w ∈ lw_tbl, w.before (cG C) (cS C) = true) ∧ va_K (cD C) vwCl [] (cS C) ∧ (∀ t, 32 ≤ t → ArrOfT (cS C) (cA C t) (tgT t) ∧ va_RA (cS C) (cA C t) (tgT t)) ∧ va_X (cB C) (cN C) (cX C) (cS C) (cS C).heap ∧ cB C < c0 C ∧
  (Cond.isRef (.static "java/lang/Throwable" "UNASSIGNED_STACK" "[Ljava/lang/StackTraceElement;")).before (cG C) (cS C) = true ∧ (Cond.isRef (.static "java/lang/Throwable" "SUPPRESSED_SENTINEL" "Ljava/util/List;")).before (cG C) (cS C) = true ∧
  ∀ i j : Nat, (i = 9 ∨ i = 10 ∨ i = 11) → (j = 9 ∨ j = 10 ∨ j = 11) → i ≠ j → (Cond.not (.castable (kN i) (kN j))).before (cG C) (cS C) = true
theorem Wd.at {w : Cond} (h : Wd w) {C : CT} {l : Launch} (hC : OKC C l) {U : State} (hW : (cS C).WarmedH U.vm) (a : Array Value) : w.before a U = true := word_at hW (good_of_word h.2) (hC.2.1 w h.1)
abbrev RsT : Type := Option Value ⊕ Nat
abbrev PoT : Type := RsT → ShT → DI → DJ → Prop
def oOf (C : CT) (r : RsT) (S : ShT) (o : Outcome) : Prop := match r with
  | .inl v => o = .returned (v.map (cv C))
  | .inr ci => ∃ k, S.1 = k + 1 ∧ (S.2.1 k).1 = ci ∧ o = .threw (c0 C + k)
def QX (C : CT) (Po : PoT) (o : Outcome) (t : State) : Prop := ∃ (r : RsT) (S : ShT) (I : DI) (J : DJ), Po r S I J ∧ MR C S I J t.heap ∧ GG C t ∧ oOf C r S o
abbrev RT : Type := Nat × Nat × Nat
def RM (R : RT) : Room := { frames := R.1, cells := R.2.1, slots := R.2.2, locals := 36 * R.1 }
def EX (C : CT) (R : RT) (s t : State) : Prop := ∃ L : List Loc, s.WarmedH t.vm ∧ s.sameButNew ({ t with vm := s.vm } : State) L R.2.1 R.2.2 ∧ ∀ q ∈ L, c0 C ≤ q.base
def ZX (C : CT) (R : RT) (Po : PoT) (below : List Frame) (s : State) : State → Prop := fun t => ∃ o, t.status = .running ∧ Ended t below o ∧ QX C Po o t ∧ EX C R s t
abbrev AX (C : CT) : Nat → Prop := fun q => c0 C ≤ q
def Iv (C : CT) (l : Launch) (K : KT) (p : Program) (s : State) (m : MethodId) (meth : Method) (c : Code) : Prop :=
  OKC C l ∧ p.tables.exec = Jvm.exec ∧ c.code = K.1 ∧ meth.sig.returnType = K.2.2.2.2.2 ∧ c.maxLocals = K.2.2.2.2.1 ∧ s.vm.findClass K.2.1 = some m.cls ∧ meth.locks = false ∧ c.exceptionTable.toList.map (fun x => (x.startPc, x.endPc, x.handlerPc, x.catchType)) = K.2.2.2.1 ∧ GG C s ∧ (∃ S I J, MR C S I J s.heap) ∧ meth.name = K.2.2.1
abbrev LT : Type := List (Nat × Value)
def lC (C : CT) (L : LT) : LT := L.map (fun q => (q.1, cv C q.2))
/-- THE JUDGEMENT: inside a method of the card K, at pc, with these locals, this stack and this memory, u cells and slots made so far: the method comes to an end with Po -/
def V (C : CT) (l : Launch) (K : KT) (R : RT) (Po : PoT) (pc : Nat) (L : LT) (st : List Value) (S : ShT) (I : DI) (J : DJ) (u : Nat × Nat) : Prop :=
  ∀ (p : Program) (e : Env) (s : State) (m : MethodId) (args : Array Value) (below : List Frame) (meth : Method) (c : Code), Iv C l K p s m meth c →
    ∀ (H : Heap) (ls : Array Slot) (locs : List Loc), MR C S I J H → lv_has ls K.2.2.2.2.1 (lC C L) → va_S (AX C) s.heap H locs → u.1 ≤ R.2.1 → u.2 ≤ R.2.2 →
    W p l e (RM R) s m args below meth c H locs u.1 u.2 (ZX C R Po below s) (F0 m pc ls (st.map (cv C)))
theorem lC_at {C : CT} {L : LT} {n i : Nat} {v : Value} {ls : Array Slot} {nL : Nat} (h : lv_has ls nL (lC C L)) (hl : L[n]? = some (i, v)) : ls[i]? = some (.val (cv C v)) := lv_at h n (by unfold lC; rw [List.getElem?_map, hl]; rfl)
theorem lC_f1 {C : CT} {L : LT} {i : Nat} : (lC C L).filter (fun q => !(q.1 == i) && !(q.1 + 1 == i && q.2.category == 2)) = lC C (L.filter (fun q => !(q.1 == i) && !(q.1 + 1 == i && q.2.category == 2))) := by
  unfold lC
  rw [List.filter_map]
  congr 2
  funext q
  simp [cv_cat]
theorem lC_f2 {C : CT} {L : LT} {i : Nat} : (lC C L).filter (fun q => !(q.1 == i) && (!(q.1 == i + 1) && !(q.1 + 1 == i && q.2.category == 2))) = lC C (L.filter (fun q => !(q.1 == i) && (!(q.1 == i + 1) && !(q.1 + 1 == i && q.2.category == 2)))) := by
  unfold lC
  rw [List.filter_map]
  congr 2
  funext q
  simp [cv_cat]
/-- the locals behind a store of one slot, of two slots -/
def s1 (L : LT) (i : Nat) (v : Value) : LT := (i, v) :: L.filter (fun q => !(q.1 == i) && !(q.1 + 1 == i && q.2.category == 2))
def s2 (L : LT) (i : Nat) (v : Value) : LT := (i, v) :: L.filter (fun q => !(q.1 == i) && (!(q.1 == i + 1) && !(q.1 + 1 == i && q.2.category == 2)))
section Rows
variable {C : CT} {l : Launch} {K : KT} {R : RT} {Po : PoT} {pc pc' : Nat} {L L' : LT} {st : List Value} {S : ShT} {I : DI} {J : DJ} {u : Nat × Nat}
theorem v_sub (ks : List Nat) (hl : lv_pick L ks = L') (k : V C l K R Po pc L' st S I J u) : V C l K R Po pc L st S I J u := by
  intro p e s m args below meth c hI H ls locs hM hL hS h1 h2
  refine k p e s m args below meth c hI H ls locs hM (lv_sub hL ks ?_) hS h1 h2
  rw [← hl]
  unfold lC lv_pick
  rw [List.map_filterMap]
  congr 1
  funext i
  rw [List.getElem?_map]
theorem v_nmi {x : Int32} (k : ∀ y : Int32, y = x → V C l K R Po pc L (.int y :: st) S I J u) : V C l K R Po pc L (.int x :: st) S I J u := k x rfl
theorem v_nml {x : Int64} (k : ∀ y : Int64, y = x → V C l K R Po pc L (.long y :: st) S I J u) : V C l K R Po pc L (.long x :: st) S I J u := k x rfl
theorem v_iconst {n : Int} {v : Int32} (hd : decode K.1 pc = .ok (.iconst n, 1)) (hv : Int32.ofInt n = v) (hp : pc + 1 = pc') (k : V C l K R Po pc' L (.int v :: st) S I J u) : V C l K R Po pc L st S I J u := by
  intro p e s m args below meth c hI H ls locs hM hL hS h1 h2
  subst hp
  exact lv_iconst hI.2.1 hI.2.2.1 hd hv (k p e s m args below meth c hI H ls locs hM hL hS h1 h2)
theorem v_bipush {n : Int} {v : Int32} (hd : decode K.1 pc = .ok (.bipush n, 2)) (hv : (Int8.ofInt n).toInt32 = v) (hp : pc + 2 = pc') (k : V C l K R Po pc' L (.int v :: st) S I J u) : V C l K R Po pc L st S I J u := by
  intro p e s m args below meth c hI H ls locs hM hL hS h1 h2
  subst hp
  exact lv_bipush hI.2.1 hI.2.2.1 hd hv (k p e s m args below meth c hI H ls locs hM hL hS h1 h2)
theorem v_sipush {n : Int} {v : Int32} (hd : decode K.1 pc = .ok (.sipush n, 3)) (hv : (Int16.ofInt n).toInt32 = v) (hp : pc + 3 = pc') (k : V C l K R Po pc' L (.int v :: st) S I J u) : V C l K R Po pc L st S I J u := by
  intro p e s m args below meth c hI H ls locs hM hL hS h1 h2
  subst hp
  exact lv_sipush hI.2.1 hI.2.2.1 hd hv (k p e s m args below meth c hI H ls locs hM hL hS h1 h2)
theorem v_lconst {n : Fin 2} {v : Int64} (hd : decode K.1 pc = .ok (.lconst n, 1)) (hv : Int64.ofNat (n : Nat) = v) (hp : pc + 1 = pc') (k : V C l K R Po pc' L (.long v :: st) S I J u) : V C l K R Po pc L st S I J u := by
  intro p e s m args below meth c hI H ls locs hM hL hS h1 h2
  subst hp
  exact lv_lconst hI.2.1 hI.2.2.1 hd hv (k p e s m args below meth c hI H ls locs hM hL hS h1 h2)
theorem v_iload_n {k4 : Fin 4} {i : Nat} {x : Int32} (n : Nat) (hd : decode K.1 pc = .ok (.iload_n k4, 1)) (hi : (k4 : Nat) = i) (hl : L[n]? = some (i, .int x)) (hp : pc + 1 = pc') (k : V C l K R Po pc' L (.int x :: st) S I J u) : V C l K R Po pc L st S I J u := by
  intro p e s m args below meth c hI H ls locs hM hL hS h1 h2
  subst hp
  exact lv_iload_n hI.2.1 hI.2.2.1 hd hi (lC_at hL hl) (k p e s m args below meth c hI H ls locs hM hL hS h1 h2)
theorem v_iload {i : Nat} {x : Int32} (n : Nat) (hd : decode K.1 pc = .ok (.iload i, 2)) (hl : L[n]? = some (i, .int x)) (hp : pc + 2 = pc') (k : V C l K R Po pc' L (.int x :: st) S I J u) : V C l K R Po pc L st S I J u := by
  intro p e s m args below meth c hI H ls locs hM hL hS h1 h2
  subst hp
  exact lv_iload hI.2.1 hI.2.2.1 hd (lC_at hL hl) (k p e s m args below meth c hI H ls locs hM hL hS h1 h2)
theorem v_lload_n {k4 : Fin 4} {i : Nat} {x : Int64} (n : Nat) (hd : decode K.1 pc = .ok (.lload_n k4, 1)) (hi : (k4 : Nat) = i) (hl : L[n]? = some (i, .long x)) (hp : pc + 1 = pc') (k : V C l K R Po pc' L (.long x :: st) S I J u) : V C l K R Po pc L st S I J u := by
  intro p e s m args below meth c hI H ls locs hM hL hS h1 h2
  subst hp
  exact lv_lload_n hI.2.1 hI.2.2.1 hd hi (lC_at hL hl) (k p e s m args below meth c hI H ls locs hM hL hS h1 h2)
theorem v_lload {i : Nat} {x : Int64} (n : Nat) (hd : decode K.1 pc = .ok (.lload i, 2)) (hl : L[n]? = some (i, .long x)) (hp : pc + 2 = pc') (k : V C l K R Po pc' L (.long x :: st) S I J u) : V C l K R Po pc L st S I J u := by
  intro p e s m args below meth c hI H ls locs hM hL hS h1 h2
  subst hp
  exact lv_lload hI.2.1 hI.2.2.1 hd (lC_at hL hl) (k p e s m args below meth c hI H ls locs hM hL hS h1 h2)
theorem v_aload_n {k4 : Fin 4} {i : Nat} {x : Nat} (n : Nat) (hd : decode K.1 pc = .ok (.aload_n k4, 1)) (hi : (k4 : Nat) = i) (hl : L[n]? = some (i, .ref x)) (hp : pc + 1 = pc') (k : V C l K R Po pc' L (.ref x :: st) S I J u) : V C l K R Po pc L st S I J u := by
  intro p e s m args below meth c hI H ls locs hM hL hS h1 h2
  subst hp
  exact lv_aload_n hI.2.1 hI.2.2.1 hd hi (lC_at hL hl) (k p e s m args below meth c hI H ls locs hM hL hS h1 h2)
theorem v_aload {i : Nat} {x : Nat} (n : Nat) (hd : decode K.1 pc = .ok (.aload i, 2)) (hl : L[n]? = some (i, .ref x)) (hp : pc + 2 = pc') (k : V C l K R Po pc' L (.ref x :: st) S I J u) : V C l K R Po pc L st S I J u := by
  intro p e s m args below meth c hI H ls locs hM hL hS h1 h2
  subst hp
  exact lv_aload hI.2.1 hI.2.2.1 hd (lC_at hL hl) (k p e s m args below meth c hI H ls locs hM hL hS h1 h2)
theorem v_sload_n {k4 : Fin 4} {i : Nat} {x : Nat} (n : Nat) (hd : decode K.1 pc = .ok (.aload_n k4, 1)) (hi : (k4 : Nat) = i) (hl : L[n]? = some (i, .retAddr x)) (hp : pc + 1 = pc') (k : V C l K R Po pc' L (.retAddr x :: st) S I J u) : V C l K R Po pc L st S I J u := by
  intro p e s m args below meth c hI H ls locs hM hL hS h1 h2
  subst hp
  exact lv_aload_n hI.2.1 hI.2.2.1 hd hi (lC_at hL hl) (k p e s m args below meth c hI H ls locs hM hL hS h1 h2)
theorem v_istore_n {k4 : Fin 4} {i : Nat} {x : Int32} (hd : decode K.1 pc = .ok (.istore_n k4, 1)) (hi : (k4 : Nat) = i) (hn : i < K.2.2.2.2.1) (hl : s1 L i (.int x) = L') (hp : pc + 1 = pc') (k : V C l K R Po pc' L' st S I J u) : V C l K R Po pc L ((.int x) :: st) S I J u := by
  intro p e s m args below meth c hI H ls locs hM hL hS h1 h2
  subst hp
  exact lv_istore_n hI.2.1 hI.2.2.1 hd hi hL hn (show _ = lC C L' by rw [← hl, lC_f1]; rfl) (fun ls hL => k p e s m args below meth c hI H ls locs hM hL hS h1 h2)
theorem v_istore {i : Nat} {x : Int32} (hd : decode K.1 pc = .ok (.istore i, 2)) (hn : i < K.2.2.2.2.1) (hl : s1 L i (.int x) = L') (hp : pc + 2 = pc') (k : V C l K R Po pc' L' st S I J u) : V C l K R Po pc L ((.int x) :: st) S I J u := by
  intro p e s m args below meth c hI H ls locs hM hL hS h1 h2
  subst hp
  exact lv_istore hI.2.1 hI.2.2.1 hd hL hn (show _ = lC C L' by rw [← hl, lC_f1]; rfl) (fun ls hL => k p e s m args below meth c hI H ls locs hM hL hS h1 h2)
theorem v_astore_n {k4 : Fin 4} {i : Nat} {x : Nat} (hd : decode K.1 pc = .ok (.astore_n k4, 1)) (hi : (k4 : Nat) = i) (hn : i < K.2.2.2.2.1) (hl : s1 L i (.ref x) = L') (hp : pc + 1 = pc') (k : V C l K R Po pc' L' st S I J u) : V C l K R Po pc L ((.ref x) :: st) S I J u := by
  intro p e s m args below meth c hI H ls locs hM hL hS h1 h2
  subst hp
  exact lv_astore_n hI.2.1 hI.2.2.1 hd hi hL hn (show _ = lC C L' by rw [← hl, lC_f1]; rfl) (fun ls hL => k p e s m args below meth c hI H ls locs hM hL hS h1 h2)
theorem v_astore {i : Nat} {x : Nat} (hd : decode K.1 pc = .ok (.astore i, 2)) (hn : i < K.2.2.2.2.1) (hl : s1 L i (.ref x) = L') (hp : pc + 2 = pc') (k : V C l K R Po pc' L' st S I J u) : V C l K R Po pc L ((.ref x) :: st) S I J u := by
  intro p e s m args below meth c hI H ls locs hM hL hS h1 h2
  subst hp
  exact lv_astore hI.2.1 hI.2.2.1 hd hL hn (show _ = lC C L' by rw [← hl, lC_f1]; rfl) (fun ls hL => k p e s m args below meth c hI H ls locs hM hL hS h1 h2)
theorem v_lstore_n {k4 : Fin 4} {i : Nat} {x : Int64} (hd : decode K.1 pc = .ok (.lstore_n k4, 1)) (hi : (k4 : Nat) = i) (hn : i + 1 < K.2.2.2.2.1) (hl : s2 L i (.long x) = L') (hp : pc + 1 = pc') (k : V C l K R Po pc' L' st S I J u) : V C l K R Po pc L ((.long x) :: st) S I J u := by
  intro p e s m args below meth c hI H ls locs hM hL hS h1 h2
  subst hp
  exact lv_lstore_n hI.2.1 hI.2.2.1 hd hi hL hn (show _ = lC C L' by rw [← hl, lC_f2]; rfl) (fun ls hL => k p e s m args below meth c hI H ls locs hM hL hS h1 h2)
theorem v_lstore {i : Nat} {x : Int64} (hd : decode K.1 pc = .ok (.lstore i, 2)) (hn : i + 1 < K.2.2.2.2.1) (hl : s2 L i (.long x) = L') (hp : pc + 2 = pc') (k : V C l K R Po pc' L' st S I J u) : V C l K R Po pc L ((.long x) :: st) S I J u := by
  intro p e s m args below meth c hI H ls locs hM hL hS h1 h2
  subst hp
  exact lv_lstore hI.2.1 hI.2.2.1 hd hL hn (show _ = lC C L' by rw [← hl, lC_f2]; rfl) (fun ls hL => k p e s m args below meth c hI H ls locs hM hL hS h1 h2)
theorem v_iinc {i n : Nat} {z : Int} {x v : Int32} (hd : decode K.1 pc = .ok (.iinc i z, 3)) (hk : L[n]? = some (i, .int x)) (hv : x + Int32.ofInt z = v) (hn : i < K.2.2.2.2.1) (hl : s1 L i (.int v) = L') (hp : pc + 3 = pc') (k : V C l K R Po pc' L' st S I J u) : V C l K R Po pc L st S I J u := by
  intro p e s m args below meth c hI H ls locs hM hL hS h1 h2
  subst hp
  exact lv_iinc hI.2.1 hI.2.2.1 hd hL (k := n) (by unfold lC; rw [List.getElem?_map, hk]; rfl) hv hn (show _ = lC C L' by rw [← hl, lC_f1]; rfl) (fun ls hL => k p e s m args below meth c hI H ls locs hM hL hS h1 h2)
theorem v_iadd {x y : Int32} (hd : decode K.1 pc = .ok (.iadd, 1))  (hp : pc + 1 = pc') (k : V C l K R Po pc' L (.int (x + y) :: st) S I J u) : V C l K R Po pc L (.int y :: .int x :: st) S I J u := by
  intro p e s m args below meth c hI H ls locs hM hL hS h1 h2
  subst hp
  exact lv_iadd hI.2.1 hI.2.2.1 hd (k p e s m args below meth c hI H ls locs hM hL hS h1 h2)
theorem v_isub {x y : Int32} (hd : decode K.1 pc = .ok (.isub, 1))  (hp : pc + 1 = pc') (k : V C l K R Po pc' L (.int (x - y) :: st) S I J u) : V C l K R Po pc L (.int y :: .int x :: st) S I J u := by
  intro p e s m args below meth c hI H ls locs hM hL hS h1 h2
  subst hp
  exact lv_isub hI.2.1 hI.2.2.1 hd (k p e s m args below meth c hI H ls locs hM hL hS h1 h2)
theorem v_imul {x y : Int32} (hd : decode K.1 pc = .ok (.imul, 1))  (hp : pc + 1 = pc') (k : V C l K R Po pc' L (.int (x * y) :: st) S I J u) : V C l K R Po pc L (.int y :: .int x :: st) S I J u := by
  intro p e s m args below meth c hI H ls locs hM hL hS h1 h2
  subst hp
  exact lv_imul hI.2.1 hI.2.2.1 hd (k p e s m args below meth c hI H ls locs hM hL hS h1 h2)
theorem v_iand {x y : Int32} (hd : decode K.1 pc = .ok (.iand, 1))  (hp : pc + 1 = pc') (k : V C l K R Po pc' L (.int (x &&& y) :: st) S I J u) : V C l K R Po pc L (.int y :: .int x :: st) S I J u := by
  intro p e s m args below meth c hI H ls locs hM hL hS h1 h2
  subst hp
  exact lv_iand hI.2.1 hI.2.2.1 hd (k p e s m args below meth c hI H ls locs hM hL hS h1 h2)
theorem v_ior {x y : Int32} (hd : decode K.1 pc = .ok (.ior, 1))  (hp : pc + 1 = pc') (k : V C l K R Po pc' L (.int (x ||| y) :: st) S I J u) : V C l K R Po pc L (.int y :: .int x :: st) S I J u := by
  intro p e s m args below meth c hI H ls locs hM hL hS h1 h2
  subst hp
  exact lv_ior hI.2.1 hI.2.2.1 hd (k p e s m args below meth c hI H ls locs hM hL hS h1 h2)
theorem v_land {x y : Int64} (hd : decode K.1 pc = .ok (.land, 1))  (hp : pc + 1 = pc') (k : V C l K R Po pc' L (.long (x &&& y) :: st) S I J u) : V C l K R Po pc L (.long y :: .long x :: st) S I J u := by
  intro p e s m args below meth c hI H ls locs hM hL hS h1 h2
  subst hp
  exact lv_land hI.2.1 hI.2.2.1 hd (k p e s m args below meth c hI H ls locs hM hL hS h1 h2)
theorem v_lor {x y : Int64} (hd : decode K.1 pc = .ok (.lor, 1))  (hp : pc + 1 = pc') (k : V C l K R Po pc' L (.long (x ||| y) :: st) S I J u) : V C l K R Po pc L (.long y :: .long x :: st) S I J u := by
  intro p e s m args below meth c hI H ls locs hM hL hS h1 h2
  subst hp
  exact lv_lor hI.2.1 hI.2.2.1 hd (k p e s m args below meth c hI H ls locs hM hL hS h1 h2)
theorem v_i2l {x : Int32} {v : Int64} (hd : decode K.1 pc = .ok (.i2l, 1)) (hv : x.toInt64 = v) (hp : pc + 1 = pc') (k : V C l K R Po pc' L (.long v :: st) S I J u) : V C l K R Po pc L (.int x :: st) S I J u := by
  intro p e s m args below meth c hI H ls locs hM hL hS h1 h2
  subst hp
  exact lv_i2l hI.2.1 hI.2.2.1 hd hv (k p e s m args below meth c hI H ls locs hM hL hS h1 h2)
theorem v_l2i {x : Int64} {v : Int32} (hd : decode K.1 pc = .ok (.l2i, 1)) (hv : x.toInt32 = v) (hp : pc + 1 = pc') (k : V C l K R Po pc' L (.int v :: st) S I J u) : V C l K R Po pc L (.long x :: st) S I J u := by
  intro p e s m args below meth c hI H ls locs hM hL hS h1 h2
  subst hp
  exact lv_l2i hI.2.1 hI.2.2.1 hd hv (k p e s m args below meth c hI H ls locs hM hL hS h1 h2)
theorem v_lushr {x v : Int64} {y : Int32} (hd : decode K.1 pc = .ok (.lushr, 1)) (hv : (x.toUInt64 >>> (y.toInt64.toUInt64 &&& Int64.toUInt64 63)).toInt64 = v) (hp : pc + 1 = pc') (k : V C l K R Po pc' L (.long v :: st) S I J u) : V C l K R Po pc L (.int y :: .long x :: st) S I J u := by
  intro p e s m args below meth c hI H ls locs hM hL hS h1 h2
  subst hp
  exact lv_lushr hI.2.1 hI.2.2.1 hd hv (k p e s m args below meth c hI H ls locs hM hL hS h1 h2)
theorem v_lshl {x v : Int64} {y : Int32} (hd : decode K.1 pc = .ok (.lshl, 1)) (hv : x <<< (y.toInt64 &&& 63) = v) (hp : pc + 1 = pc') (k : V C l K R Po pc' L (.long v :: st) S I J u) : V C l K R Po pc L (.int y :: .long x :: st) S I J u := by
  intro p e s m args below meth c hI H ls locs hM hL hS h1 h2
  subst hp
  exact lv_lshl hI.2.1 hI.2.2.1 hd hv (k p e s m args below meth c hI H ls locs hM hL hS h1 h2)
theorem v_lshr {x v : Int64} {y : Int32} (hd : decode K.1 pc = .ok (.lshr, 1)) (hv : x >>> (y.toInt64 &&& 63) = v) (hp : pc + 1 = pc') (k : V C l K R Po pc' L (.long v :: st) S I J u) : V C l K R Po pc L (.int y :: .long x :: st) S I J u := by
  intro p e s m args below meth c hI H ls locs hM hL hS h1 h2
  subst hp
  exact lv_lshr hI.2.1 hI.2.2.1 hd hv (k p e s m args below meth c hI H ls locs hM hL hS h1 h2)
theorem v_dup {va : Value} (hd : decode K.1 pc = .ok (.dup, 1)) (hva : va.category = 1) (hp : pc + 1 = pc') (k : V C l K R Po pc' L (va :: va :: st) S I J u) : V C l K R Po pc L (va :: st) S I J u := by
  intro p e s m args below meth c hI H ls locs hM hL hS h1 h2
  subst hp
  exact lv_dup hI.2.1 hI.2.2.1 hd ((cv_cat C va).trans hva) (k p e s m args below meth c hI H ls locs hM hL hS h1 h2)
theorem v_dup2 {va vb : Value} (hd : decode K.1 pc = .ok (.dup2, 1)) (hva : va.category = 1) (hvb : vb.category = 1) (hp : pc + 1 = pc') (k : V C l K R Po pc' L (va :: vb :: va :: vb :: st) S I J u) : V C l K R Po pc L (va :: vb :: st) S I J u := by
  intro p e s m args below meth c hI H ls locs hM hL hS h1 h2
  subst hp
  exact lv_dup2_11 hI.2.1 hI.2.2.1 hd ((cv_cat C va).trans hva) ((cv_cat C vb).trans hvb) (k p e s m args below meth c hI H ls locs hM hL hS h1 h2)
theorem v_pop {va : Value} (hd : decode K.1 pc = .ok (.pop, 1)) (hva : va.category = 1) (hp : pc + 1 = pc') (k : V C l K R Po pc' L st S I J u) : V C l K R Po pc L (va :: st) S I J u := by
  intro p e s m args below meth c hI H ls locs hM hL hS h1 h2
  subst hp
  exact lv_pop hI.2.1 hI.2.2.1 hd ((cv_cat C va).trans hva) (k p e s m args below meth c hI H ls locs hM hL hS h1 h2)
theorem v_if_eq {x : Int32} {off : Int} {tgt : Nat} (hd : decode K.1 pc = .ok (.ifCond .eq off, 3)) (ht : (pc : Int) + off = (tgt : Int)) (hp : pc + 3 = pc') (kt : x = 0 → V C l K R Po tgt L st S I J u) (kf : ¬ x = 0 → V C l K R Po pc' L st S I J u) : V C l K R Po pc L (.int x :: st) S I J u := by
  intro p e s m args below meth c hI H ls locs hM hL hS h1 h2
  subst hp
  exact lv_if_eq hI.2.1 hI.2.2.1 hd ht (fun q => kt q p e s m args below meth c hI H ls locs hM hL hS h1 h2) (fun q => kf q p e s m args below meth c hI H ls locs hM hL hS h1 h2)
theorem v_icmp_eq {x y : Int32} {off : Int} {tgt : Nat} (hd : decode K.1 pc = .ok (.if_icmp .eq off, 3)) (ht : (pc : Int) + off = (tgt : Int)) (hp : pc + 3 = pc') (kt : x = y → V C l K R Po tgt L st S I J u) (kf : ¬ x = y → V C l K R Po pc' L st S I J u) : V C l K R Po pc L (.int y :: .int x :: st) S I J u := by
  intro p e s m args below meth c hI H ls locs hM hL hS h1 h2
  subst hp
  exact lv_icmp_eq hI.2.1 hI.2.2.1 hd ht (fun q => kt q p e s m args below meth c hI H ls locs hM hL hS h1 h2) (fun q => kf q p e s m args below meth c hI H ls locs hM hL hS h1 h2)
theorem v_if_ne {x : Int32} {off : Int} {tgt : Nat} (hd : decode K.1 pc = .ok (.ifCond .ne off, 3)) (ht : (pc : Int) + off = (tgt : Int)) (hp : pc + 3 = pc') (kt : ¬ x = 0 → V C l K R Po tgt L st S I J u) (kf : x = 0 → V C l K R Po pc' L st S I J u) : V C l K R Po pc L (.int x :: st) S I J u := by
  intro p e s m args below meth c hI H ls locs hM hL hS h1 h2
  subst hp
  exact lv_if_ne hI.2.1 hI.2.2.1 hd ht (fun q => kt q p e s m args below meth c hI H ls locs hM hL hS h1 h2) (fun q => kf q p e s m args below meth c hI H ls locs hM hL hS h1 h2)
theorem v_icmp_ne {x y : Int32} {off : Int} {tgt : Nat} (hd : decode K.1 pc = .ok (.if_icmp .ne off, 3)) (ht : (pc : Int) + off = (tgt : Int)) (hp : pc + 3 = pc') (kt : ¬ x = y → V C l K R Po tgt L st S I J u) (kf : x = y → V C l K R Po pc' L st S I J u) : V C l K R Po pc L (.int y :: .int x :: st) S I J u := by
  intro p e s m args below meth c hI H ls locs hM hL hS h1 h2
  subst hp
  exact lv_icmp_ne hI.2.1 hI.2.2.1 hd ht (fun q => kt q p e s m args below meth c hI H ls locs hM hL hS h1 h2) (fun q => kf q p e s m args below meth c hI H ls locs hM hL hS h1 h2)
theorem v_if_lt {x : Int32} {off : Int} {tgt : Nat} (hd : decode K.1 pc = .ok (.ifCond .lt off, 3)) (ht : (pc : Int) + off = (tgt : Int)) (hp : pc + 3 = pc') (kt : x < 0 → V C l K R Po tgt L st S I J u) (kf : ¬ x < 0 → V C l K R Po pc' L st S I J u) : V C l K R Po pc L (.int x :: st) S I J u := by
  intro p e s m args below meth c hI H ls locs hM hL hS h1 h2
  subst hp
  exact lv_if_lt hI.2.1 hI.2.2.1 hd ht (fun q => kt q p e s m args below meth c hI H ls locs hM hL hS h1 h2) (fun q => kf q p e s m args below meth c hI H ls locs hM hL hS h1 h2)
theorem v_icmp_lt {x y : Int32} {off : Int} {tgt : Nat} (hd : decode K.1 pc = .ok (.if_icmp .lt off, 3)) (ht : (pc : Int) + off = (tgt : Int)) (hp : pc + 3 = pc') (kt : x < y → V C l K R Po tgt L st S I J u) (kf : ¬ x < y → V C l K R Po pc' L st S I J u) : V C l K R Po pc L (.int y :: .int x :: st) S I J u := by
  intro p e s m args below meth c hI H ls locs hM hL hS h1 h2
  subst hp
  exact lv_icmp_lt hI.2.1 hI.2.2.1 hd ht (fun q => kt q p e s m args below meth c hI H ls locs hM hL hS h1 h2) (fun q => kf q p e s m args below meth c hI H ls locs hM hL hS h1 h2)
theorem v_if_ge {x : Int32} {off : Int} {tgt : Nat} (hd : decode K.1 pc = .ok (.ifCond .ge off, 3)) (ht : (pc : Int) + off = (tgt : Int)) (hp : pc + 3 = pc') (kt : 0 ≤ x → V C l K R Po tgt L st S I J u) (kf : ¬ 0 ≤ x → V C l K R Po pc' L st S I J u) : V C l K R Po pc L (.int x :: st) S I J u := by
  intro p e s m args below meth c hI H ls locs hM hL hS h1 h2
  subst hp
  exact lv_if_ge hI.2.1 hI.2.2.1 hd ht (fun q => kt q p e s m args below meth c hI H ls locs hM hL hS h1 h2) (fun q => kf q p e s m args below meth c hI H ls locs hM hL hS h1 h2)
theorem v_icmp_ge {x y : Int32} {off : Int} {tgt : Nat} (hd : decode K.1 pc = .ok (.if_icmp .ge off, 3)) (ht : (pc : Int) + off = (tgt : Int)) (hp : pc + 3 = pc') (kt : y ≤ x → V C l K R Po tgt L st S I J u) (kf : ¬ y ≤ x → V C l K R Po pc' L st S I J u) : V C l K R Po pc L (.int y :: .int x :: st) S I J u := by
  intro p e s m args below meth c hI H ls locs hM hL hS h1 h2
  subst hp
  exact lv_icmp_ge hI.2.1 hI.2.2.1 hd ht (fun q => kt q p e s m args below meth c hI H ls locs hM hL hS h1 h2) (fun q => kf q p e s m args below meth c hI H ls locs hM hL hS h1 h2)
theorem v_if_gt {x : Int32} {off : Int} {tgt : Nat} (hd : decode K.1 pc = .ok (.ifCond .gt off, 3)) (ht : (pc : Int) + off = (tgt : Int)) (hp : pc + 3 = pc') (kt : 0 < x → V C l K R Po tgt L st S I J u) (kf : ¬ 0 < x → V C l K R Po pc' L st S I J u) : V C l K R Po pc L (.int x :: st) S I J u := by
  intro p e s m args below meth c hI H ls locs hM hL hS h1 h2
  subst hp
  exact lv_if_gt hI.2.1 hI.2.2.1 hd ht (fun q => kt q p e s m args below meth c hI H ls locs hM hL hS h1 h2) (fun q => kf q p e s m args below meth c hI H ls locs hM hL hS h1 h2)
theorem v_icmp_gt {x y : Int32} {off : Int} {tgt : Nat} (hd : decode K.1 pc = .ok (.if_icmp .gt off, 3)) (ht : (pc : Int) + off = (tgt : Int)) (hp : pc + 3 = pc') (kt : y < x → V C l K R Po tgt L st S I J u) (kf : ¬ y < x → V C l K R Po pc' L st S I J u) : V C l K R Po pc L (.int y :: .int x :: st) S I J u := by
  intro p e s m args below meth c hI H ls locs hM hL hS h1 h2
  subst hp
  exact lv_icmp_gt hI.2.1 hI.2.2.1 hd ht (fun q => kt q p e s m args below meth c hI H ls locs hM hL hS h1 h2) (fun q => kf q p e s m args below meth c hI H ls locs hM hL hS h1 h2)
theorem v_if_le {x : Int32} {off : Int} {tgt : Nat} (hd : decode K.1 pc = .ok (.ifCond .le off, 3)) (ht : (pc : Int) + off = (tgt : Int)) (hp : pc + 3 = pc') (kt : x ≤ 0 → V C l K R Po tgt L st S I J u) (kf : ¬ x ≤ 0 → V C l K R Po pc' L st S I J u) : V C l K R Po pc L (.int x :: st) S I J u := by
  intro p e s m args below meth c hI H ls locs hM hL hS h1 h2
  subst hp
  exact lv_if_le hI.2.1 hI.2.2.1 hd ht (fun q => kt q p e s m args below meth c hI H ls locs hM hL hS h1 h2) (fun q => kf q p e s m args below meth c hI H ls locs hM hL hS h1 h2)
theorem v_icmp_le {x y : Int32} {off : Int} {tgt : Nat} (hd : decode K.1 pc = .ok (.if_icmp .le off, 3)) (ht : (pc : Int) + off = (tgt : Int)) (hp : pc + 3 = pc') (kt : x ≤ y → V C l K R Po tgt L st S I J u) (kf : ¬ x ≤ y → V C l K R Po pc' L st S I J u) : V C l K R Po pc L (.int y :: .int x :: st) S I J u := by
  intro p e s m args below meth c hI H ls locs hM hL hS h1 h2
  subst hp
  exact lv_icmp_le hI.2.1 hI.2.2.1 hd ht (fun q => kt q p e s m args below meth c hI H ls locs hM hL hS h1 h2) (fun q => kf q p e s m args below meth c hI H ls locs hM hL hS h1 h2)
theorem v_goto {off : Int} {tgt : Nat} (hd : decode K.1 pc = .ok (.goto off, 3)) (ht : (pc : Int) + off = (tgt : Int)) (k : V C l K R Po tgt L st S I J u) : V C l K R Po pc L st S I J u := by
  intro p e s m args below meth c hI H ls locs hM hL hS h1 h2
  exact lv_goto hI.2.1 hI.2.2.1 hd ht (k p e s m args below meth c hI H ls locs hM hL hS h1 h2)
end Rows
