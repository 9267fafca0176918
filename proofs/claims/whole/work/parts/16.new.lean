/-! ===== ROWS THAT MAKE CELLS ===== -/
def zf {α : Type} (f : Nat → Nat → α) (n : Nat) (z : α) : Nat → Nat → α := fun b => if n ≤ b then fun _ => z else f b
def ad1 (S : ShT) (k : Nat × Nat) : ShT := (S.1 + 1, fun b => if b = S.1 then k else S.2.1 b, zf S.2.2 S.1 none)
def ad2 (S : ShT) (N M : Nat) : ShT := (S.1 + 1 + N, fun b => if b = S.1 then (37, N) else if S.1 < b then (32, M) else S.2.1 b, fun b j => if b = S.1 then (if j < N then some (S.1 + 1 + j) else none) else zf S.2.2 S.1 none b j)
theorem zf_lt {α : Type} {f : Nat → Nat → α} {n : Nat} {z : α} {b : Nat} (h : b < n) : zf f n z b = f b := by
  unfold zf
  rw [if_neg (by omega)]
theorem zf_ge {α : Type} {f : Nat → Nat → α} {n : Nat} {z : α} {b j : Nat} (h : n ≤ b) : zf f n z b j = z := by
  unfold zf
  rw [if_pos h]
theorem MR.grow {C : CT} {S S' : ShT} {I I' : DI} {J J' : DJ} {H H' : Heap} (h : MR C S I J H) (hz : H'.size = c0 C + S'.1) (ho : ∀ q, q < H.size → H'[q]? = H[q]?) (hk : ∀ k, k < S.1 → S'.2.1 k = S.2.1 k ∧ S'.2.2 k = S.2.2 k ∧ I' k = I k ∧ J' k = J k) (hn : ∀ k, S.1 ≤ k → k < S'.1 → va_at (cD C) vwCl (c0 C + k, cel C S' I' J' k) H') : MR C S' I' J' H' := by
  refine ⟨hz, fun k hk' => ?_⟩
  by_cases hl : k < S.1
  · obtain ⟨g1, g2, g3, g4⟩ := hk k hl
    rw [cel_eq g1 g2 g3 g4]
    exact (h.2 k hl).kept (ho _ (by rw [h.1]; show c0 C + k < c0 C + S.1; omega))
  · exact hn k (by omega) hk'
theorem va_S.grow {A : Nat → Prop} {H0 H H1 : Heap} {locs : List Loc} (h : va_S A H0 H locs) (z : H.size ≤ H1.size) (o : ∀ q, q < H.size → H1[q]? = H[q]?) : va_S A H0 H1 locs :=
  ⟨Nat.le_trans h.1 z, fun x h1 h2 => (o x (Nat.lt_of_lt_of_le h1 h.1)).trans (h.2.1 x h1 h2), h.2.2⟩
theorem fV_new {C : CT} {S : ShT} {I : DI} {J : DJ} {n j : Nat} (h1 : S.2.2 n j = none) (h2 : I n j = 0) (h3 : J n j = 0) {t : FieldType} (ht : t = .int ∨ t = .boolean ∨ t = .long ∨ isR t = true) : fV C S I J n j t = defaultValue t := by
  rcases ht with rfl | rfl | rfl | h
  · simp [fV, h2, defaultValue]
  · simp [fV, h2, defaultValue]
  · simp [fV, h3, defaultValue]
  · cases t <;> first | (cases h; done) | (simp [fV, fR, h1, defaultValue])
def okT (t : FieldType) : Bool := match t with
  | .int => true
  | .boolean => true
  | .long => true
  | .object _ => true
  | .array _ => true
  | _ => false
theorem okT_s {t : FieldType} (h : okT t = true) : t = .int ∨ t = .boolean ∨ t = .long ∨ isR t = true := by
  cases t <;> simp_all [okT, isR]
theorem ky_ok : ∀ c, c < 12 → ∀ k, k < kF c → okT (kY c k) = true := by decide +kernel
section Rows
variable {C : CT} {l : Launch} {K : KT} {R : RT} {Po : PoT} {pc pc' : Nat} {L L' : LT} {st : List Value} {S S' : ShT} {I I' : DI} {J J' : DJ} {u : Nat × Nat}
theorem v_new {ci idx N : Nat} (hd : decode K.1 pc = .ok (.new idx, 3)) (hc : ci < 12) (hw1 : Wd (.classLink K.2.1 idx (kN ci))) (hw2 : Wd (.instantiable (kN ci) N)) (hw3 : Wd (.initialized (kN ci))) (hu : u.1 + 1 ≤ R.2.1 ∧ u.2 + N ≤ R.2.2) (hp : pc + 3 = pc')
    (kk : V C l K R Po pc' L (.ref S.1 :: st) (ad1 S (ci, 0)) (zf I S.1 0) (zf J S.1 0) (u.1 + 1, u.2 + N)) : V C l K R Po pc L st S I J u := by
  intro p e s m args below meth c hI H ls locs hM hL hS h1 h2
  subst hp
  obtain ⟨hC, hx, hb, hr, hml, hown, hlk, hh, hG, ⟨S0, I0, J0, hM0⟩, hnm⟩ := id hI
  have hKn := (hG.K hC).1 ci _ (vw_at hc)
  refine W.newcK hx hb hown (hw1.at hC hG.1 args) (hw2.at hC hG.1 args) (hw3.at hC hG.1 args) rfl hd hu.1 hu.2 hKn.2.1 hM.1 fun H1 kC hkC e1 z1 o1 => ?_
  have o2 : ∀ q, q < H.size → H1[q]? = H[q]? := fun q hq => o1 q (by rw [← hM.1]; exact hq)
  refine kk p e s m args below meth c hI H1 ls locs (hM.grow (by rw [z1]; rfl) o2 (fun k hk => ⟨?_, zf_lt hk, zf_lt hk, zf_lt hk⟩) (fun k g1 g2 => ?_)) hL (hS.grow (by rw [z1, hM.1]; exact Nat.le_succ _) o2) hu.1 hu.2
  · show (if k = S.1 then _ else _) = _
    rw [if_neg (by omega)]
  · have hk : k = S.1 := by have : k < S.1 + 1 := g2; omega
    subst hk
    rw [cel_o (ci := ci) (by show (if S.1 = S.1 then _ else _ : Nat × Nat).1 = ci; rw [if_pos rfl]) hc]
    refine ⟨_, vw_at hc, (u_born (kY ci) (hG.lays hC ci args) (fun w h => h) hKn hkC e1 (ky_all ci)).to fun j hj => ?_⟩
    rw [fL_V hj, fV_new (zf_ge (Nat.le_refl _)) (zf_ge (Nat.le_refl _)) (zf_ge (Nat.le_refl _)) (okT_s (ky_ok ci hc j hj))]
theorem v_newa {t N : Nat} {atype : ArrayType} {x : Int32} (hd : decode K.1 pc = .ok (.newarray atype, 2)) (ht : (t = 32 ∧ atype = .int) ∨ (t = 33 ∧ atype = .boolean) ∨ (t = 34 ∧ atype = .long)) (hw : Wd (.arrayClass (tgT t))) (hx : x = nI N) (hN : N ≤ 1000) (hu : u.1 + 1 ≤ R.2.1 ∧ u.2 + N ≤ R.2.2) (hp : pc + 2 = pc')
    (kk : V C l K R Po pc' L (.ref S.1 :: st) (ad1 S (t, N)) (zf I S.1 0) (zf J S.1 0) (u.1 + 1, u.2 + N)) : V C l K R Po pc L (.int x :: st) S I J u := by
  intro p e s m args below meth c hI H ls locs hM hL hS h1 h2
  subst hp
  obtain ⟨hC, hx0, hb, hr, hml, hown, hlk, hh, hG, ⟨S0, I0, J0, hM0⟩, hnm⟩ := id hI
  have hty : newarray.typeOf atype = tgT t := by rcases ht with ⟨rfl, rfl⟩ | ⟨rfl, rfl⟩ | ⟨rfl, rfl⟩ <;> rfl
  have ht32 : 32 ≤ t := by omega
  have hRA : s.vm.findClass ("[" ++ (tgT t).toString) = some (cA C t) := by
    have h := (hG.arr hC ht32).2
    rcases ht with ⟨rfl, rfl⟩ | ⟨rfl, rfl⟩ | ⟨rfl, rfl⟩ <;> exact h
  refine va_newaK hx0 hb (atype := atype) (by rw [hty]; exact hw.at hC hG.1 args) rfl hd rfl (by rw [hx]; exact nI_pos (by omega)) (by rw [hx]; exact nI_clamp (by omega)) (by rcases ht with ⟨rfl, rfl⟩ | ⟨rfl, rfl⟩ | ⟨rfl, rfl⟩ <;> simp only [newarray.typeOf, componentBytes] <;> omega) hu.1 hu.2 hM.1 fun H1 cA1 e1 z1 o1 a1 a2 => ?_
  rw [hty] at a2 e1
  cases hRA.symm.trans a2
  have o2 : ∀ q, q < H.size → H1[q]? = H[q]? := fun q hq => o1 q (by rw [← hM.1]; exact hq)
  refine kk p e s m args below meth c hI H1 ls locs (hM.grow (by rw [z1]; rfl) o2 (fun k hk => ⟨?_, zf_lt hk, zf_lt hk, zf_lt hk⟩) (fun k g1 g2 => ?_)) hL (hS.grow (by rw [z1, hM.1]; exact Nat.le_succ _) o2) hu.1 hu.2
  · show (if k = S.1 then _ else _) = _
    rw [if_neg (by omega)]
  · have hk : k = S.1 := by have : k < S.1 + 1 := g2; omega
    subst hk
    rw [cel_a (t := t) (n := N) (by show (if S.1 = S.1 then _ else _ : Nat × Nat) = _; rw [if_pos rfl]) ht32]
    show H1[c0 C + S.1]? = some (vp_cell _ _)
    rw [e1]
    rcases ht with ⟨rfl, rfl⟩ | ⟨rfl, rfl⟩ | ⟨rfl, rfl⟩
    · rw [vc32]
      congr 2
      funext j
      rw [zf_ge (Nat.le_refl _)]
      rfl
    · rw [vc33]
      congr 2
      funext j
      rw [zf_ge (Nat.le_refl _)]
      rfl
    · rw [vc34]
      congr 2
      funext j
      rw [zf_ge (Nat.le_refl _)]
      rfl
theorem v_anew {t N idx ci : Nat} {x : Int32} (hd : decode K.1 pc = .ok (.anewarray idx, 3)) (ht : 35 ≤ t) (htc : tgT t = .object (kN ci)) (hw : Wd (.classLink K.2.1 idx (kN ci))) (hw2 : Cond.arrayOver (.object (kN ci)) ∈ lw_tbl) (hx : x = nI N) (hN : N ≤ 1000) (hu : u.1 + 1 ≤ R.2.1 ∧ u.2 + N ≤ R.2.2) (hp : pc + 3 = pc')
    (kk : V C l K R Po pc' L (.ref S.1 :: st) (ad1 S (t, N)) (zf I S.1 0) (zf J S.1 0) (u.1 + 1, u.2 + N)) : V C l K R Po pc L (.int x :: st) S I J u := by
  intro p e s m args below meth c hI H ls locs hM hL hS h1 h2
  subst hp
  obtain ⟨hC, hx0, hb, hr, hml, hown, hlk, hh, hG, ⟨S0, I0, J0, hM0⟩, hnm⟩ := id hI
  have hcl : x.toNatClampNeg = N := by rw [hx]; exact nI_clamp (by omega)
  have hRA := (hG.arr hC (t := t) (by omega)).2
  rw [htc] at hRA
  obtain ⟨-, -, -, -, -, hfc⟩ := hRA
  refine W.anew hx0 hb hown (hw.at hC hG.1 args) (va_AO.use (A := args) (va_AO.moved hG.1.alike (va_AO.of (hC.2.1 _ hw2)))) rfl hd rfl (by rw [hx]; exact nI_pos (by omega)) (by rw [hcl]; omega) hu.1 (by rw [hcl]; exact hu.2) fun cA1 kA comp f1 f2 f3 f4 => ?_
  cases hfc.symm.trans f1
  rw [hcl, hM.1]
  generalize hH1 : H.push ({ cls := cA C t, slots := Array.replicate N .null, vm := .none } : Cell) = H1
  have z1 : H1.size = H.size + 1 := by rw [← hH1, Array.size_push]
  have e1 : H1[H.size]? = some (arrV (cA C t) N (fun _ => .null)) := by rw [← hH1, Array.getElem?_push_size, ← arrV_new]
  have o2 : ∀ q : Nat, q < H.size → H1[q]? = H[q]? := fun q hq => by rw [← hH1, Array.getElem?_push, if_neg (Nat.ne_of_lt hq)]
  refine kk p e s m args below meth c hI H1 ls locs (hM.grow (by rw [z1, hM.1]; rfl) o2 (fun k hk => ⟨?_, zf_lt hk, zf_lt hk, zf_lt hk⟩) (fun k g1 g2 => ?_)) hL (hS.grow (by rw [z1]; exact Nat.le_succ _) o2) hu.1 hu.2
  · show (if k = S.1 then _ else _) = _
    rw [if_neg (by omega)]
  · have hk : k = S.1 := by have : k < S.1 + 1 := g2; omega
    subst hk
    rw [cel_a (t := t) (n := N) (by show (if S.1 = S.1 then _ else _ : Nat × Nat) = _; rw [if_pos rfl]) (by omega)]
    show H1[c0 C + S.1]? = some (vp_cell _ _)
    rw [← hM.1, e1, vcq ht]
    congr 2
    funext j
    show _ = va_rf ((zf S.2.2 S.1 none S.1 j).map _)
    rw [zf_ge (Nat.le_refl _)]
    rfl
/-- Object's constructor -/
theorem v_obj {idx a : Nat} (hd : decode K.1 pc = .ok (.invokespecial idx, 3)) (hw : Wd (.methodLink K.2.1 idx objectInit)) (hw2 : Wd (.instanceMethod objectInit)) (hw3 : Wd (.code objectInit ⟨#[0xb1]⟩ 1 none)) (hR : 1 ≤ R.1) (hst : (st.map fun v => v.category).sum ≤ 8) (hp : pc + 3 = pc') (kk : V C l K R Po pc' L st S I J u) : V C l K R Po pc L (.ref a :: st) S I J u := by
  intro p e s m args below meth c hI H ls locs hM hL hS h1 h2
  subst hp
  obtain ⟨hC, hx, hb, hr, hml, hown, hlk, hh, hG, ⟨S0, I0, J0, hM0⟩, hnm⟩ := id hI
  have hst2 : ((st.map (cv C)).map fun v => v.category).sum ≤ 8 := by
    have : ((st.map (cv C)).map fun v => v.category) = st.map fun v => v.category := by
      rw [List.map_map]
      congr 1
      funext v
      exact cv_cat C v
    rw [this]
    exact hst
  have hrm := lv_room (m := m) (pc := pc) (ls := ls) (rest := (.ref a :: st).map (cv C)) hst2
  refine W.objInit hx hb hown (hw.at hC hG.1 args) (hw2.at hC hG.1 args) (hw3.at hC hG.1 args) rfl (by rw [hml]; exact hL.1) rfl hd hR (by show _ ≤ 36 * R.1; omega) ?_
  exact kk p e s m args below meth c hI H ls locs hM hL hS h1 h2
end Rows
