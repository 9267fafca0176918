/-! ===== ROWS OF THE MEMORY: fields and arrays ===== -/
def isO (S : ShT) (a ci : Nat) : Prop := a < S.1 ∧ (S.2.1 a).1 = ci
def isA (S : ShT) (a t n : Nat) : Prop := a < S.1 ∧ S.2.1 a = (t, n)
def FL (own : String) (idx ci k : Nat) : Prop := k < kF ci ∧ ci < 12 ∧ (kT ci k).1 = kN ci ∧ Wd (.fieldLink own idx (kN ci) (kT ci k).2.1 (kT ci k).2.2.1)
def u2 {α : Type} (f : Nat → Nat → α) (a k : Nat) (x : α) : Nat → Nat → α := fun b j => if b = a ∧ j = k then x else f b j
theorem u2_o {α : Type} {f : Nat → Nat → α} {a k : Nat} {x : α} {b : Nat} (h : b ≠ a) : u2 f a k x b = f b := by
  funext j
  simp [u2, h]
theorem u2_s {α : Type} {f : Nat → Nat → α} {a k : Nat} {x : α} : u2 f a k x a k = x := by simp [u2]
theorem u2_n {α : Type} {f : Nat → Nat → α} {a k : Nat} {x : α} {b j : Nat} (h : b ≠ a ∨ j ≠ k) : u2 f a k x b j = f b j := by
  unfold u2
  rw [if_neg (fun q => h.elim (fun g => g q.1) (fun g => g q.2))]
theorem ulay_good (C : String) (T : u_T) (k : Nat) : goodWord (u_lay C T k) = true := by
  unfold u_lay
  split <;> rfl
theorem cel_o {C : CT} {S : ShT} {I : DI} {J : DJ} {k ci : Nat} (h : (S.2.1 k).1 = ci) (hc : ci < 12) : cel C S I J k = .inr (ci, fL C S I J k ci) := by
  unfold cel
  rw [h, if_pos (by omega)]
theorem cel_a {C : CT} {S : ShT} {I : DI} {J : DJ} {k t n : Nat} (h : S.2.1 k = (t, n)) (hc : 32 ≤ t) : cel C S I J k = .inl (cA C t, fA C S I J k t n) := by
  unfold cel
  rw [h, if_neg (by omega)]
theorem cel_eq {C : CT} {S S' : ShT} {I I' : DI} {J J' : DJ} {k : Nat} (h1 : S'.2.1 k = S.2.1 k) (h2 : S'.2.2 k = S.2.2 k) (h3 : I' k = I k) (h4 : J' k = J k) : cel C S' I' J' k = cel C S I J k := by
  unfold cel fL fV fA
  rw [h1, h2, h3, h4]
theorem MR.one {C : CT} {S : ShT} {I : DI} {J : DJ} {H : Heap} (h : MR C S I J H) {a : Nat} (ha : a < S.1) {e : va_E} (he : cel C S I J a = e) : va_P (cD C) vwCl [(c0 C + a, e)] H := by
  intro k q hk
  cases k with
  | zero =>
    cases hk
    rw [← he]
    exact h.2 a ha
  | succ k => cases hk
/-- one cell changes -/
theorem MR.set {C : CT} {S S' : ShT} {I I' : DI} {J J' : DJ} {H H' : Heap} (h : MR C S I J H) {a : Nat} (hz : H'.size = H.size) (ho : ∀ q, q ≠ c0 C + a → H'[q]? = H[q]?) (hn : va_at (cD C) vwCl (c0 C + a, cel C S' I' J' a) H') (hs : S'.1 = S.1) (hk : ∀ k, k < S.1 → k ≠ a → cel C S' I' J' k = cel C S I J k) : MR C S' I' J' H' := by
  refine ⟨by rw [hz, h.1, hs], fun k hkn => ?_⟩
  rw [hs] at hkn
  by_cases e : k = a
  · subst e
    exact hn
  · rw [hk k hkn e]
    exact (h.2 k hkn).kept (ho _ (by show c0 C + k ≠ c0 C + a; omega))
theorem fL_get {C : CT} {S : ShT} {I : DI} {J : DJ} {a ci k : Nat} (hk : k < kF ci) : (fL C S I J a ci)[k]? = some (fV C S I J a k (kY ci k)) := by
  unfold fL
  rw [List.getElem?_map, List.getElem?_range hk]
  rfl
theorem fL_V {C : CT} {S : ShT} {I : DI} {J : DJ} {a ci k : Nat} (hk : k < kF ci) : vp_V (fL C S I J a ci) k = fV C S I J a k (kY ci k) := by
  unfold vp_V
  rw [List.getD_eq_getElem?_getD, fL_get hk]
  rfl
theorem GG.K {C : CT} {l : Launch} {U : State} (h : GG C U) (hC : OKC C l) : va_K (cD C) vwCl [] U := va_K.moved h.1.alike hC.2.2.1
theorem GG.arr {C : CT} {l : Launch} {U : State} (h : GG C U) (hC : OKC C l) {t : Nat} (ht : 32 ≤ t) : ArrOfT U (cA C t) (tgT t) ∧ va_RA U (cA C t) (tgT t) := ⟨arrOfT_moved h.1.alike (hC.2.2.2.1 t ht).1, (hC.2.2.2.1 t ht).2.moved h.1.alike⟩
theorem GG.lays {C : CT} {l : Launch} {U : State} (h : GG C U) (hC : OKC C l) (ci : Nat) (a : Array Value) : ∀ w ∈ u_ws (kN ci) (kT ci) (kF ci), w.before a U = true := by
  intro w hw
  have hg : goodWord w = true := by
    obtain ⟨k, -, rfl⟩ := List.mem_map.mp hw
    exact ulay_good _ _ _
  exact Wd.at ⟨ly_all ci w hw, hg⟩ hC h.1 a
section Put
variable {p : Program} {l : Launch} {e : Env} {R : Room} {s : State} {m : MethodId} {args : Array Value} {below : List Frame} {meth : Method} {c : Code} {H : Heap} {locs : List Loc} {cells slots : Nat} {Q : State → Prop} {D : va_G} {cl : List vw_C} {tys : List (ClassId × FieldType)} {a pc : Nat} {ls : Array Slot} {rest : List Value} {cc : ByteArray}
/-- putfield, with what stays -/
theorem put0 (hexec : p.tables.exec = Jvm.exec) (hb : c.code = cc) {own : String} {ci k index : Nat} (hts : ∀ w ∈ u_ws (kN ci) (kT ci) (kF ci), w.before args s = true) (hown : s.vm.findClass own = some m.cls) (hK : va_K D vwCl tys s) {fs : List Value} (hP : va_at D vwCl (a, .inr (ci, fs)) H) (hc : ci < 12) (hk : k < kF ci) (hself : (kT ci k).1 = kN ci)
    (hlink : (Cond.fieldLink own index (kN ci) (kT ci k).2.1 (kT ci k).2.2.1).before args s = true) (hfin : (kT ci k).2.2.2 = false ∨ ((kT ci k).2.2.2 = true ∧ meth.name = "<init>" ∧ kN ci = own)) {v : Value} (hn : narrow (kY ci k) v = v) (hfit : fits (kY ci k) v = true) (hl : k < fs.length)
    (hdg : decode cc pc = .ok (.putfield index, 3)) (kk : ∀ (H1 : Heap) (i : Nat), va_at D vwCl (a, .inr (ci, fs.set k v)) H1 → H1.size = H.size → (∀ q, q ≠ a → H1[q]? = H[q]?) → W p l e R s m args below meth c H1 (locs ++ [⟨a, i⟩]) cells slots Q (F0 m (pc + 3) ls rest)) : W p l e R s m args below meth c H locs cells slots Q (F0 m pc ls (v :: .ref a :: rest)) := by
  have hvw := vw_at hc
  have hap := va_apart (own := own) hts (fun w h => h) (kY ci) (ky_all ci) (kn_all ci) hK hvw
  obtain ⟨r, h1, cell, q1, q2, q3, q4⟩ := hP
  have hr : r = (kN ci, kT ci, kF ci) := Option.some.inj (h1.symm.trans hvw)
  subst hr
  obtain ⟨hS, hfc, kC, hkC, hkind⟩ := hK.1 ci _ hvw
  obtain ⟨cf, kf, fi, f, hi, hsl⟩ := hS k hk
  have hlay := hts _ (u_in_lay (C := kN ci) (T := kT ci) hk)
  have hst := (u_facts hfc hkC (u_lays hts (fun w h => h) hk) hi).1
  have hi2 : s.fieldFound? (kN ci) (kT ci k).2.1 (kT ci k).2.2.1 = some (cf, kf, fi, f) := by rw [← hself]; exact hi
  have end9 : ∀ H' : Heap, H'[a]? = some (cell.setSlot f.slot v) → va_at D vwCl (a, .inr (ci, fs.set k v)) H' := by
    intro H' e1
    rw [hsl] at e1
    exact ⟨_, hvw, t_OB.to (V := updV (vp_V fs) k v) ⟨_, e1, q2, q3, t_set q4 hap hk v⟩ (fun j _ => vp_updV_set hl v j)⟩
  rcases hfin with hf | ⟨hf, hin2, hdecl⟩
  · unfold u_lay at hlay
    rw [if_neg (by rw [hf]; decide)] at hlay
    have h6 := u_store hfc hkC hkind hlay hi (ky_all ci k hk) hn hfit
    exact W.putK hexec hb (f := f) ⟨hown, hlink, ⟨_, _, _, hi2⟩, hst⟩ (by rw [q2]; exact h6) q1 q3 (by rw [hsl]; exact k2_hasslot (q4 k hk)) rfl rfl hdg fun H' e1 e2 e3 => kk H' _ (end9 H' e1) e2 e3
  · unfold u_lay at hlay
    rw [if_pos hf] at hlay
    have hcf : m.cls = cf := by
      obtain ⟨_, _, c', _, _, _, -, -, hf', -, -, -, hown2, -⟩ := Cond.laysFinal_spec hlay
      have e1 : c' = cf := by have := hi.symm.trans hf'; simp at this; exact this.1.symm
      rw [hself, hdecl] at hown2
      rw [← e1]; exact Option.some.inj (hown.symm.trans hown2)
    have h6 := u_fits hfc hkC hkind (Or.inr hlay) hi (ky_all ci k hk) hn hfit
    exact W.putFinK hexec hb hown hlink hi2 hst hcf hin2 (by rw [q2]; exact h6) q1 q3 (by rw [hsl]; exact k2_hasslot (q4 k hk)) rfl rfl hdg fun H' e1 e2 e3 => kk H' _ (end9 H' e1) e2 e3
end Put
section Rows
variable {C : CT} {l : Launch} {K : KT} {R : RT} {Po : PoT} {pc pc' : Nat} {L L' : LT} {st : List Value} {S S' : ShT} {I I' : DI} {J J' : DJ} {u : Nat × Nat}
theorem v_get {a ci k idx : Nat} (av : Value) (hd : decode K.1 pc = .ok (.getfield idx, 3)) (hf : FL K.2.1 idx ci k) (ho : isO S a ci) (hv : cv C av = fV C S I J a k (kY ci k)) (hp : pc + 3 = pc') (kk : V C l K R Po pc' L (av :: st) S I J u) : V C l K R Po pc L (.ref a :: st) S I J u := by
  intro p e s m args below meth c hI H ls locs hM hL hS h1 h2
  subst hp
  obtain ⟨hC, hx, hb, hr, hml, hown, hlk, hh, hG, hM0, hnm⟩ := id hI
  obtain ⟨f1, f2, f3, f4⟩ := hf
  have hP := hM.one ho.1 (cel_o ho.2 f2)
  refine va_get (D := cD C) (cl := vwCl) (tys := []) (ci := ci) (C := kN ci) (T := kT ci) (N := kF ci) (Ts := u_ws (kN ci) (kT ci) (kF ci)) (ref := kN ci) hx hb (hG.lays hC ci args) (fun w h => h) hown (hG.K hC) hP 0 rfl (vw_at f2) k f1 (f4.at hC hG.1 args) (fun x h => by rw [← f3]; exact h) (fL_get f1) hd ?_
  rw [← hv]
  exact kk p e s m args below meth c hI H ls locs hM hL hS h1 h2
def isI (t : FieldType) : Bool := match t with
  | .int => true
  | .boolean => true
  | _ => false
def isR (t : FieldType) : Bool := match t with
  | .object _ => true
  | .array _ => true
  | _ => false
theorem fV_i {C : CT} {S : ShT} {I : DI} {J : DJ} {a k : Nat} {t : FieldType} (h : isI t = true) : fV C S I J a k t = .int (I a k) := by
  cases t <;> first | rfl | cases h
theorem fV_r {C : CT} {S : ShT} {I : DI} {J : DJ} {a k r : Nat} {t : FieldType} (h : isR t = true) (hr : S.2.2 a k = some r) : fV C S I J a k t = .ref (c0 C + r) := by
  cases t <;> first | (cases h; done) | (simp [fV, fR, hr])
theorem v_geti {a ci k idx : Nat} (hd : decode K.1 pc = .ok (.getfield idx, 3)) (hf : FL K.2.1 idx ci k) (ho : isO S a ci) (hy : isI (kY ci k) = true) (hp : pc + 3 = pc') (kk : V C l K R Po pc' L (.int (I a k) :: st) S I J u) : V C l K R Po pc L (.ref a :: st) S I J u := v_get (.int (I a k)) hd hf ho (fV_i hy).symm hp kk
theorem v_getl {a ci k idx : Nat} (hd : decode K.1 pc = .ok (.getfield idx, 3)) (hf : FL K.2.1 idx ci k) (ho : isO S a ci) (hy : kY ci k = .long) (hp : pc + 3 = pc') (kk : V C l K R Po pc' L (.long (J a k) :: st) S I J u) : V C l K R Po pc L (.ref a :: st) S I J u := v_get (.long (J a k)) hd hf ho (by rw [hy]; rfl) hp kk
theorem v_getr {a ci k idx r : Nat} (hd : decode K.1 pc = .ok (.getfield idx, 3)) (hf : FL K.2.1 idx ci k) (ho : isO S a ci) (hy : isR (kY ci k) = true) (hr : S.2.2 a k = some r) (hp : pc + 3 = pc') (kk : V C l K R Po pc' L (.ref r :: st) S I J u) : V C l K R Po pc L (.ref a :: st) S I J u := v_get (.ref r) hd hf ho (fV_r hy hr).symm hp kk
theorem va_S.put1 {A : Nat → Prop} {H0 H H1 : Heap} {locs : List Loc} {a i : Nat} (h : va_S A H0 H locs) (z : H1.size = H.size) (oq : ∀ q : Nat, q ≠ a → H1[q]? = H[q]?) (ha : A a) : va_S A H0 H1 (locs ++ [⟨a, i⟩]) := h.put z oq ha
theorem v_put {a ci k idx : Nat} {av : Value} (hd : decode K.1 pc = .ok (.putfield idx, 3)) (hf : FL K.2.1 idx ci k) (ho : isO S a ci) (hfin : (kT ci k).2.2.2 = false ∨ ((kT ci k).2.2.2 = true ∧ K.2.2.1 = "<init>" ∧ kN ci = K.2.1)) (hn : narrow (kY ci k) (cv C av) = cv C av) (hfit : fits (kY ci k) (cv C av) = true)
    (hs : S'.1 = S.1) (hk : S'.2.1 = S.2.1) (hc : ∀ b, b ≠ a → S'.2.2 b = S.2.2 b ∧ I' b = I b ∧ J' b = J b) (hv : ∀ j, j < kF ci → fV C S' I' J' a j (kY ci j) = if j = k then cv C av else fV C S I J a j (kY ci j))
    (hp : pc + 3 = pc') (kk : V C l K R Po pc' L st S' I' J' u) : V C l K R Po pc L (av :: .ref a :: st) S I J u := by
  intro p e s m args below meth c hI H ls locs hM hL hS h1 h2
  subst hp
  obtain ⟨hC, hx, hb, hr, hml, hown, hlk, hh, hG, hM0, hnm⟩ := id hI
  obtain ⟨f1, f2, f3, f4⟩ := hf
  have hP := hM.2 a ho.1
  rw [cel_o ho.2 f2] at hP
  have hlen : (fL C S I J a ci).length = kF ci := by simp [fL]
  refine put0 (D := cD C) (tys := []) hx hb (hG.lays hC ci args) hown (hG.K hC) hP f2 f1 f3 (f4.at hC hG.1 args) (by rw [hnm]; exact hfin) hn hfit (by rw [hlen]; exact f1) hd fun H1 i e1 e2 e3 => ?_
  have hS1 := hS.put1 (i := i) e2 e3 (Nat.le_add_right _ _)
  refine kk p e s m args below meth c hI H1 ls _ (hM.set e2 e3 ?_ hs (fun b _ hba => cel_eq (by rw [hk]) (hc b hba).1 (hc b hba).2.1 (hc b hba).2.2)) hL hS1 h1 h2
  rw [cel_o (by rw [hk]; exact ho.2) f2]
  have : (fL C S I J a ci).set k (cv C av) = fL C S' I' J' a ci := by
    apply List.ext_getElem?
    intro j
    by_cases hj : j < kF ci
    · rw [fL_get hj, hv j hj, List.getElem?_set]
      by_cases hjk : j = k
      · subst hjk
        simp [hlen, hj]
      · simp [hjk, Ne.symm hjk, fL_get hj]
    · rw [List.getElem?_eq_none (by rw [List.length_set, hlen]; omega), List.getElem?_eq_none (by simp [fL]; omega)]
  rw [← this]
  exact e1
theorem v_puti {a ci k idx : Nat} {x : Int32} (hd : decode K.1 pc = .ok (.putfield idx, 3)) (hf : FL K.2.1 idx ci k) (ho : isO S a ci) (hfin : (kT ci k).2.2.2 = false) (hy : kY ci k = .int) (hp : pc + 3 = pc') (kk : V C l K R Po pc' L st S (u2 I a k x) J u) : V C l K R Po pc L (.int x :: .ref a :: st) S I J u := by
  refine v_put (av := .int x) hd hf ho (Or.inl hfin) (by rw [hy]; rfl) (by rw [hy]; rfl) rfl rfl (fun b hb => ⟨rfl, u2_o hb, rfl⟩) (fun j hj => ?_) hp kk
  by_cases hjk : j = k
  · subst hjk
    rw [hy, if_pos rfl]
    show Value.int (u2 I a j x a j) = _
    rw [u2_s]
    rfl
  · rw [if_neg hjk]
    unfold fV
    simp only [u2_n (Or.inr hjk)]
theorem v_putz {a ci k idx : Nat} {x : Int32} (hd : decode K.1 pc = .ok (.putfield idx, 3)) (hf : FL K.2.1 idx ci k) (ho : isO S a ci) (hfin : (kT ci k).2.2.2 = false) (hy : kY ci k = .boolean) (hx : x = 0 ∨ x = 1) (hp : pc + 3 = pc') (kk : V C l K R Po pc' L st S (u2 I a k x) J u) : V C l K R Po pc L (.int x :: .ref a :: st) S I J u := by
  refine v_put (av := .int x) hd hf ho (Or.inl hfin) (by rw [hy]; rcases hx with rfl | rfl <;> rfl) (by rw [hy]; rcases hx with rfl | rfl <;> rfl) rfl rfl (fun b hb => ⟨rfl, u2_o hb, rfl⟩) (fun j hj => ?_) hp kk
  by_cases hjk : j = k
  · subst hjk
    rw [hy, if_pos rfl]
    show Value.int (u2 I a j x a j) = _
    rw [u2_s]
    rfl
  · rw [if_neg hjk]
    unfold fV
    simp only [u2_n (Or.inr hjk)]
theorem v_putl {a ci k idx : Nat} {x : Int64} (hd : decode K.1 pc = .ok (.putfield idx, 3)) (hf : FL K.2.1 idx ci k) (ho : isO S a ci) (hfin : (kT ci k).2.2.2 = false) (hy : kY ci k = .long) (hp : pc + 3 = pc') (kk : V C l K R Po pc' L st S I (u2 J a k x) u) : V C l K R Po pc L (.long x :: .ref a :: st) S I J u := by
  refine v_put (av := .long x) hd hf ho (Or.inl hfin) (by rw [hy]; rfl) (by rw [hy]; rfl) rfl rfl (fun b hb => ⟨rfl, rfl, u2_o hb⟩) (fun j hj => ?_) hp kk
  by_cases hjk : j = k
  · subst hjk
    rw [hy, if_pos rfl]
    show Value.long (u2 J a j x a j) = _
    rw [u2_s]
    rfl
  · rw [if_neg hjk]
    unfold fV
    simp only [u2_n (Or.inr hjk)]
/-- a final reference field, in its constructor -/
theorem v_putF {a ci k idx r : Nat} (hd : decode K.1 pc = .ok (.putfield idx, 3)) (hf : FL K.2.1 idx ci k) (ho : isO S a ci) (hfin : (kT ci k).2.2.2 = true) (hin : K.2.2.1 = "<init>") (hown : kN ci = K.2.1) (hy : isR (kY ci k) = true) (hp : pc + 3 = pc') (kk : V C l K R Po pc' L st (S.1, S.2.1, u2 S.2.2 a k (some r)) I J u) : V C l K R Po pc L (.ref r :: .ref a :: st) S I J u := by
  refine v_put (S' := (S.1, S.2.1, u2 S.2.2 a k (some r))) (av := .ref r) hd hf ho (Or.inr ⟨hfin, hin, hown⟩) ?_ ?_ rfl rfl (fun b hb => ⟨u2_o hb, rfl, rfl⟩) (fun j hj => ?_) hp kk
  · generalize kY ci k = t at hy
    cases t <;> first | rfl | cases hy
  · generalize kY ci k = t at hy
    cases t <;> first | rfl | cases hy
  · by_cases hjk : j = k
    · subst hjk
      rw [if_pos rfl, fV_r hy (show (u2 S.2.2 a j (some r)) a j = some r from u2_s)]
      rfl
    · rw [if_neg hjk]
      unfold fV
      simp only [u2_n (Or.inr hjk)]
end Rows
