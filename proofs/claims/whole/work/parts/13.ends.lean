/-! ===== A METHOD'S END, ITS CONTRACT ===== -/
theorem GG.on {C : CT} {s t : State} {H : Heap} {locs : List Loc} (h : GG C s) (hS : va_S (AX C) s.heap H locs) (hz : c0 C ≤ s.heap.size) (ht : t.heap = H) (hW : s.WarmedH t.vm) : GG C t :=
  ⟨State.WarmedH.trans h.1 hW, fun q hq => by rw [ht, hS.2.1 q (Nat.lt_of_lt_of_le hq hz) (Nat.not_le.mpr hq)]; exact h.2 q hq⟩
theorem MR.z {C : CT} {S : ShT} {I : DI} {J : DJ} {H : Heap} (h : MR C S I J H) : c0 C ≤ H.size := by rw [h.1]; exact Nat.le_add_right _ _
section WM
variable {p : Program} {l : Launch} {e : Env} {R : Room} {s : State} {m : MethodId} {args : Array Value} {below : List Frame} {meth : Method} {c : Code} {H : Heap} {locs : List Loc} {cells slots : Nat} {Q Q' : State → Prop}
theorem W.mono {g : JFrame} (h : ∀ t, Q t → Q' t) (w : W p l e R s m args below meth c H locs cells slots Q g) : W p l e R s m args below meth c H locs cells slots Q' g := fun T hT X => by
  obtain ⟨t, a, b⟩ := w T hT X
  exact ⟨t, a, h t b⟩
end WM
section Rows
variable {C : CT} {l : Launch} {K : KT} {R : RT} {Po : PoT} {pc pc' : Nat} {L L' : LT} {st : List Value} {S S' : ShT} {I I' : DI} {J J' : DJ} {u : Nat × Nat}
/-- any of the returns -/
theorem v_end {r : Option Value} (hp : Po (.inl r) S I J) (k : ∀ (p : Program) (e : Env) (s : State) (m : MethodId) (args : Array Value) (below : List Frame) (meth : Method) (c : Code), Iv C l K p s m meth c → ∀ (H : Heap) (ls : Array Slot) (locs : List Loc) (x y : Nat) (Qc : Array Value → State → Outcome → State → Prop), (∀ t : State, t.heap = H → s.WarmedH t.vm → Qc args s (.returned (r.map (cv C))) t) → (∀ q ∈ locs, c0 C ≤ q.base) →
    W p l e (RM R) s m args below meth c H locs x y (MQ below Qc args s x y (fun q => c0 C ≤ q)) (F0 m pc ls (st.map (cv C)))) : V C l K R Po pc L st S I J u := by
  intro p e s m args below meth c hI H ls locs hM hL hS h1 h2
  obtain ⟨hC, hx, hb, hr, hml, hown, hlk, hh, hG, ⟨S0, I0, J0, hM0⟩, hnm⟩ := id hI
  refine W.widen (k := R.2.1) (n := R.2.2) h1 h2 ?_
  refine W.mono ?_ (k p e s m args below meth c hI H ls locs R.2.1 R.2.2 (fun _ _ o t => o = .returned (r.map (cv C)) ∧ t.heap = H) (fun t ht _ => ⟨rfl, ht⟩) hS.2.2)
  rintro t ⟨o, a1, a2, ⟨rfl, a3⟩, Lc, ⟨-, hW, hsm⟩, a5⟩
  exact ⟨_, a1, a2, ⟨.inl r, S, I, J, hp, by rw [a3]; exact hM, hG.on hS hM0.z a3 hW, rfl⟩, Lc, hW, hsm, a5⟩
theorem v_iret {x : Int32} (hd : decode K.1 pc = .ok (.ireturn, 1)) (ht : K.2.2.2.2.2 = some .int) (hp : Po (.inl (some (.int x))) S I J) : V C l K R Po pc L [.int x] S I J u :=
  v_end hp (fun p e s m args below meth c hI H ls locs _ _ Qc hq hf => by
    have hlk : meth.locks = false := hI.2.2.2.2.2.2.1
    exact W.iret hI.2.1 hI.2.2.1 (hI.2.2.2.1.trans ht) hq hf hd)
theorem v_zret {x : Int32} (hd : decode K.1 pc = .ok (.ireturn, 1)) (ht : K.2.2.2.2.2 = some .boolean) (hx : x = 0 ∨ x = 1) (hp : Po (.inl (some (.int x))) S I J) : V C l K R Po pc L [.int x] S I J u :=
  v_end hp (fun p e s m args below meth c hI H ls locs _ _ Qc hq hf => by
    have hlk : meth.locks = false := hI.2.2.2.2.2.2.1
    have hn : narrow .boolean (.int x) = .int x := by rcases hx with rfl | rfl <;> rfl
    intro T hT X
    obtain ⟨fs, hret, hrun, hended, hW, hframe⟩ := X.leave (v := some (.int x)) (fun h => by rw [hI.2.2.2.1.trans ht] at h; cases h)
    have hmeth' : T.vm.method? m = some meth := X.method'
    refine ⟨T.setFrames fs, ?_, .returned (some (.int x)), hrun, hended, hq _ hT hW, locs, ⟨⟨_, rfl⟩, hW, hframe⟩, hf⟩
    have hexec := hI.2.1
    have hb := hI.2.2.1
    have hr := hI.2.2.2.1.trans ht
    show Steps p.tables e below (T.setTop (F0 m pc ls [.int x])) (T.setFrames fs)
    jvm_step X.here [X.here.top, hexec, hb, hd, hmeth', hr, hn]
    (try refine ⟨rfl, ?_⟩); (try refine ⟨rfl, ?_⟩)
    first | (intro acts; rw [hret _ acts rfl rfl rfl]) | rw [hret _ _ rfl rfl rfl]
    exact Steps.refl _)
theorem v_vret (hd : decode K.1 pc = .ok (.return_, 1)) (ht : K.2.2.2.2.2 = none) (hp : Po (.inl none) S I J) : V C l K R Po pc L [] S I J u :=
  v_end hp (fun p e s m args below meth c hI H ls locs _ _ Qc hq hf => by
    have hlk : meth.locks = false := hI.2.2.2.2.2.2.1
    exact W.vret hI.2.1 hI.2.2.1 (hI.2.2.2.1.trans ht) hq hf hd)
theorem v_lret {x : Int64} (hd : decode K.1 pc = .ok (.lreturn, 1)) (ht : K.2.2.2.2.2 = some .long) (hp : Po (.inl (some (.long x))) S I J) : V C l K R Po pc L [.long x] S I J u :=
  v_end hp (fun p e s m args below meth c hI H ls locs _ _ Qc hq hf => by
    have hlk : meth.locks = false := hI.2.2.2.2.2.2.1
    exact W.lret hI.2.1 hI.2.2.1 (hI.2.2.2.1.trans ht) hq hf hd)
end Rows
