/-! ===== ROWS OF THE MEMORY: arrays; the script; long compares; switches ===== -/
theorem vp_in_j {i : Int32} {j n : Nat} (hi : i = nI j) (hj : j < n) (hn : n ≤ 1000) : vp_in i n := by
  rw [hi]
  exact vp_in_nI hj (by omega)
theorem cl_j {i : Int32} {j n : Nat} (hi : i = nI j) (hj : j < n) (hn : n ≤ 1000) : i.toNatClampNeg = j := by
  rw [hi]
  exact nI_clamp (by omega)
theorem MR.arr {C : CT} {S : ShT} {I : DI} {J : DJ} {H : Heap} (h : MR C S I J H) {a t n : Nat} (ha : isA S a t n) (ht : 32 ≤ t) : H[c0 C + a]? = some (vp_cell (cA C t) (fA C S I J a t n)) := by
  have hP := h.2 a ha.1
  rw [cel_a ha.2 ht] at hP
  exact hP
theorem MR.arrSet {C : CT} {S S' : ShT} {I I' : DI} {J J' : DJ} {H H' : Heap} (h : MR C S I J H) {a t n : Nat} (ha : isA S a t n) (ht : 32 ≤ t) (hz : H'.size = H.size) (ho : ∀ q, q ≠ c0 C + a → H'[q]? = H[q]?) (hs : S'.1 = S.1) (hk : S'.2.1 = S.2.1) (hc : ∀ b, b ≠ a → S'.2.2 b = S.2.2 b ∧ I' b = I b ∧ J' b = J b) (hn : H'[c0 C + a]? = some (vp_cell (cA C t) (fA C S' I' J' a t n))) : MR C S' I' J' H' := by
  refine h.set hz ho ?_ hs (fun b _ hba => cel_eq (by rw [hk]) (hc b hba).1 (hc b hba).2.1 (hc b hba).2.2)
  rw [cel_a (by rw [hk]; exact ha.2) ht]
  exact hn
theorem vc32 {C : CT} {S : ShT} {I : DI} {J : DJ} {a n : Nat} : vp_cell (cA C 32) (fA C S I J a 32 n) = arrV (cA C 32) n (fun j => .int (I a j)) := rfl
theorem vc33 {C : CT} {S : ShT} {I : DI} {J : DJ} {a n : Nat} : vp_cell (cA C 33) (fA C S I J a 33 n) = arrV (cA C 33) n (fun j => .int (I a j)) := rfl
theorem vc34 {C : CT} {S : ShT} {I : DI} {J : DJ} {a n : Nat} : vp_cell (cA C 34) (fA C S I J a 34 n) = arrV (cA C 34) n (fun j => .long (J a j)) := rfl
theorem fA_q {C : CT} {S : ShT} {I : DI} {J : DJ} {a t n : Nat} (ht : 35 ≤ t) : fA C S I J a t n = (n, .inr (.inr (.inr (.inr (fun j => (S.2.2 a j).map (fun r => c0 C + r)))))) := by
  unfold fA
  rw [if_neg (by omega), if_neg (by omega)]
theorem vcq {C : CT} {S : ShT} {I : DI} {J : DJ} {a t n : Nat} (ht : 35 ≤ t) : vp_cell (cA C t) (fA C S I J a t n) = arrV (cA C t) n (fun j => va_rf ((S.2.2 a j).map (fun r => c0 C + r))) := by
  rw [fA_q ht]
  rfl
section Rows
variable {C : CT} {l : Launch} {K : KT} {R : RT} {Po : PoT} {pc pc' : Nat} {L L' : LT} {st : List Value} {S S' : ShT} {I I' : DI} {J J' : DJ} {u : Nat × Nat}
theorem v_iald {a n j : Nat} {i : Int32} (hd : decode K.1 pc = .ok (.iaload, 1)) (ha : isA S a 32 n) (hi : i = nI j) (hj : j < n) (hn : n ≤ 1000) (hp : pc + 1 = pc') (kk : V C l K R Po pc' L (.int (I a j) :: st) S I J u) : V C l K R Po pc L (.int i :: .ref a :: st) S I J u := by
  intro p e s m args below meth c hI H ls locs hM hL hS h1 h2
  subst hp
  obtain ⟨hC, hx, hb, hr, hml, hown, hlk, hh, hG, hM0, hnm⟩ := id hI
  have hcell := hM.arr ha (by omega)
  rw [vc32] at hcell
  refine W.iald (v := .int (I a j)) hx hb hcell ((hG.arr hC (t := 32) (by omega)).1 n (fun j => .int (I a j))) (fun q => by cases q) (by show ¬ (i < 0 ∨ (arrV _ _ _).slots.size ≤ _); rw [arrV_size]; exact vp_in_j hi hj hn) (by show (arrV _ _ _).slots[_]? = _; rw [cl_j hi hj hn, arrV_read _ _ hj]) rfl rfl hd ?_
  exact kk p e s m args below meth c hI H ls locs hM hL hS h1 h2
theorem v_zald {a n j : Nat} {i : Int32} (hd : decode K.1 pc = .ok (.baload, 1)) (ha : isA S a 33 n) (hi : i = nI j) (hj : j < n) (hn : n ≤ 1000) (hp : pc + 1 = pc') (kk : V C l K R Po pc' L (.int (I a j) :: st) S I J u) : V C l K R Po pc L (.int i :: .ref a :: st) S I J u := by
  intro p e s m args below meth c hI H ls locs hM hL hS h1 h2
  subst hp
  obtain ⟨hC, hx, hb, hr, hml, hown, hlk, hh, hG, hM0, hnm⟩ := id hI
  have hK : va_K (cD C) vwCl [(cA C 33, .boolean)] s := ⟨(hG.K hC).1, fun k q hk => by
    cases k with
    | zero => cases hk; exact hG.arr hC (t := 33) (by omega)
    | succ k => cases hk⟩
  have hP := hM.one ha.1 (cel_a ha.2 (by omega))
  refine va_zald (D := cD C) (cl := vwCl) (tys := [(cA C 33, .boolean)]) (n := n) (f := I a) hx hb hK hP 0 0 rfl rfl (vp_in_j hi hj hn) hd ?_
  rw [cl_j hi hj hn]
  exact kk p e s m args below meth c hI H ls locs hM hL hS h1 h2
theorem v_lald {a n j : Nat} {i : Int32} (hd : decode K.1 pc = .ok (.laload, 1)) (ha : isA S a 34 n) (hi : i = nI j) (hj : j < n) (hn : n ≤ 1000) (hp : pc + 1 = pc') (kk : V C l K R Po pc' L (.long (J a j) :: st) S I J u) : V C l K R Po pc L (.int i :: .ref a :: st) S I J u := by
  intro p e s m args below meth c hI H ls locs hM hL hS h1 h2
  subst hp
  obtain ⟨hC, hx, hb, hr, hml, hown, hlk, hh, hG, hM0, hnm⟩ := id hI
  have hK : va_K (cD C) vwCl [(cA C 34, .long)] s := ⟨(hG.K hC).1, fun k q hk => by
    cases k with
    | zero => cases hk; exact hG.arr hC (t := 34) (by omega)
    | succ k => cases hk⟩
  have hP := hM.one ha.1 (cel_a ha.2 (by omega))
  refine va_lald (D := cD C) (cl := vwCl) (tys := [(cA C 34, .long)]) (n := n) (f := J a) hx hb hK hP 0 0 rfl rfl (vp_in_j hi hj hn) hd ?_
  rw [cl_j hi hj hn]
  exact kk p e s m args below meth c hI H ls locs hM hL hS h1 h2
theorem tg_ref {t : Nat} (ht : 35 ≤ t) : (tgT t).isReference = true := by
  unfold tgT
  split <;> first | omega | rfl
theorem v_aald {a t n j r : Nat} {i : Int32} (hd : decode K.1 pc = .ok (.aaload, 1)) (ha : isA S a t n) (ht : 35 ≤ t) (hi : i = nI j) (hj : j < n) (hn : n ≤ 1000) (hr : S.2.2 a j = some r) (hp : pc + 1 = pc') (kk : V C l K R Po pc' L (.ref r :: st) S I J u) : V C l K R Po pc L (.int i :: .ref a :: st) S I J u := by
  intro p e s m args below meth c hI H ls locs hM hL hS h1 h2
  subst hp
  obtain ⟨hC, hx, hb, hrt, hml, hown, hlk, hh, hG, hM0, hnm⟩ := id hI
  have hcell := hM.arr ha (by omega)
  rw [vcq ht] at hcell
  refine W.aald (v := .ref (c0 C + r)) (ty := tgT t) hx hb hcell ((hG.arr hC (t := t) (by omega)).1 n (fun j => va_rf ((S.2.2 a j).map (fun r => c0 C + r)))) (tg_ref ht) (fun q => by cases q) (by show ¬ (i < 0 ∨ (arrV _ _ _).slots.size ≤ _); rw [arrV_size]; exact vp_in_j hi hj hn) (by show (arrV _ _ _).slots[_]? = _; rw [cl_j hi hj hn, arrV_read _ _ hj]; simp only [hr]; rfl) rfl rfl hd ?_
  exact kk p e s m args below meth c hI H ls locs hM hL hS h1 h2
theorem v_iast {a n j : Nat} {i x : Int32} (hd : decode K.1 pc = .ok (.iastore, 1)) (ha : isA S a 32 n) (hi : i = nI j) (hj : j < n) (hn : n ≤ 1000) (hp : pc + 1 = pc') (kk : V C l K R Po pc' L st S (u2 I a j x) J u) : V C l K R Po pc L (.int x :: .int i :: .ref a :: st) S I J u := by
  intro p e s m args below meth c hI H ls locs hM hL hS h1 h2
  subst hp
  obtain ⟨hC, hx, hb, hr, hml, hown, hlk, hh, hG, hM0, hnm⟩ := id hI
  refine W.iast hx hb (hM.arr ha (by omega)) ((hG.arr hC (t := 32) (by omega)).1 n (fun j => .int (I a j))) (fun q => by cases q) (by show ¬ (i < 0 ∨ (arrV _ _ _).slots.size ≤ _); rw [arrV_size]; exact vp_in_j hi hj hn) rfl rfl hd fun H1 e1 e2 e3 => ?_
  refine kk p e s m args below meth c hI H1 ls _ (hM.arrSet ha (by omega) e2 e3 rfl rfl (fun b hb => ⟨rfl, u2_o hb, rfl⟩) ?_) hL (hS.put e2 e3 (Nat.le_add_right _ _)) h1 h2
  rw [e1, cl_j hi hj hn]
  rw [vc32, vc32, arrV_store]
  congr 2
  funext q
  by_cases hq : q = j
  · subst hq
    simp [updV, u2_s]
  · simp [updV, hq, u2_n (Or.inr hq)]
theorem v_zast {a n j : Nat} {i x : Int32} (hd : decode K.1 pc = .ok (.bastore, 1)) (ha : isA S a 33 n) (hi : i = nI j) (hj : j < n) (hn : n ≤ 1000) (hx01 : x = 0 ∨ x = 1) (hp : pc + 1 = pc') (kk : V C l K R Po pc' L st S (u2 I a j x) J u) : V C l K R Po pc L (.int x :: .int i :: .ref a :: st) S I J u := by
  intro p e s m args below meth c hI H ls locs hM hL hS h1 h2
  subst hp
  obtain ⟨hC, hx, hb, hr, hml, hown, hlk, hh, hG, hM0, hnm⟩ := id hI
  refine W.zast hx hb (hM.arr ha (by omega)) ((hG.arr hC (t := 33) (by omega)).1 n (fun j => .int (I a j))) (fun q => by cases q) (by show ¬ (i < 0 ∨ (arrV _ _ _).slots.size ≤ _); rw [arrV_size]; exact vp_in_j hi hj hn) rfl rfl hd fun H1 e1 e2 e3 => ?_
  refine kk p e s m args below meth c hI H1 ls _ (hM.arrSet ha (by omega) e2 e3 rfl rfl (fun b hb => ⟨rfl, u2_o hb, rfl⟩) ?_) hL (hS.put e2 e3 (Nat.le_add_right _ _)) h1 h2
  have hnr : narrow .boolean (.int x) = .int x := by rcases hx01 with rfl | rfl <;> rfl
  rw [e1, cl_j hi hj hn, hnr]
  rw [vc33, vc33, arrV_store]
  congr 2
  funext q
  by_cases hq : q = j
  · subst hq
    simp [updV, u2_s]
  · simp [updV, hq, u2_n (Or.inr hq)]
theorem v_last {a n j : Nat} {i : Int32} {x : Int64} (hd : decode K.1 pc = .ok (.lastore, 1)) (ha : isA S a 34 n) (hi : i = nI j) (hj : j < n) (hn : n ≤ 1000) (hp : pc + 1 = pc') (kk : V C l K R Po pc' L st S I (u2 J a j x) u) : V C l K R Po pc L (.long x :: .int i :: .ref a :: st) S I J u := by
  intro p e s m args below meth c hI H ls locs hM hL hS h1 h2
  subst hp
  obtain ⟨hC, hx, hb, hr, hml, hown, hlk, hh, hG, hM0, hnm⟩ := id hI
  refine W.last hx hb (hM.arr ha (by omega)) ((hG.arr hC (t := 34) (by omega)).1 n (fun j => .long (J a j))) (fun q => by cases q) (by show ¬ (i < 0 ∨ (arrV _ _ _).slots.size ≤ _); rw [arrV_size]; exact vp_in_j hi hj hn) rfl rfl hd fun H1 e1 e2 e3 => ?_
  refine kk p e s m args below meth c hI H1 ls _ (hM.arrSet ha (by omega) e2 e3 rfl rfl (fun b hb => ⟨rfl, rfl, u2_o hb⟩) ?_) hL (hS.put e2 e3 (Nat.le_add_right _ _)) h1 h2
  rw [e1, cl_j hi hj hn]
  rw [vc34, vc34, arrV_store]
  congr 2
  funext q
  by_cases hq : q = j
  · subst hq
    simp [updV, u2_s]
  · simp [updV, hq, u2_n (Or.inr hq)]
theorem v_aast {a v t n j ci : Nat} {i : Int32} (hd : decode K.1 pc = .ok (.aastore, 1)) (ha : isA S a t n) (ht : 35 ≤ t) (hv : isO S v ci) (hc : ci < 12) (htc : tgT t = .object (kN ci)) (hi : i = nI j) (hj : j < n) (hn : n ≤ 1000) (hp : pc + 1 = pc') (kk : V C l K R Po pc' L st (S.1, S.2.1, u2 S.2.2 a j (some v)) I J u) : V C l K R Po pc L (.ref v :: .int i :: .ref a :: st) S I J u := by
  intro p e s m args below meth c hI H ls locs hM hL hS h1 h2
  subst hp
  obtain ⟨hC, hx, hb, hr, hml, hown, hlk, hh, hG, hM0, hnm⟩ := id hI
  have hcell := hM.arr ha (by omega)
  rw [vcq ht] at hcell
  have hPv := hM.2 v hv.1
  rw [cel_o hv.2 hc] at hPv
  obtain ⟨r', hr', cellV, g1, g2, g3, -⟩ := hPv
  have hcls := ((hG.K hC).1 ci _ (vw_at hc)).2
  have hRA := (hG.arr hC (t := t) (by omega)).2
  rw [htc] at hRA
  obtain ⟨kA, comp, k1, k2, k3, -⟩ := hRA
  have hcomp : comp = (cD C).1 ci := Option.some.inj (k3.symm.trans hcls.1)
  subst hcomp
  obtain ⟨kC, hkC, -⟩ := hcls.2
  have hin := vp_in_j hi hj hn
  refine W.aast hx hb hcell (fun q h => by cases h) (fun h => by cases h) k1 k2 rfl hkC ⟨fun q => hin (Or.inl q), by show _ < (arrV _ _ _).slots.size; rw [arrV_size, cl_j hi hj hn]; exact hj⟩ g1 (fun q h => by rw [g3] at h; cases h) (by rw [g2]; exact hkC) (by rw [g2]; exact va_assign hcls) rfl rfl hd fun H1 e1 e2 e3 => ?_
  refine kk p e s m args below meth c hI H1 ls _ (hM.arrSet (S' := (S.1, S.2.1, u2 S.2.2 a j (some v))) ha (by omega) e2 e3 rfl rfl (fun b hb => ⟨u2_o hb, rfl, rfl⟩) ?_) hL (hS.put e2 e3 (Nat.le_add_right _ _)) h1 h2
  rw [e1, cl_j hi hj hn, vcq ht, arrV_store]
  congr 2
  funext q
  by_cases hq : q = j
  · subst hq
    simp [updV, u2_s, va_rf]
  · simp [updV, hq, u2_n (Or.inr hq)]
/-- the script: its length, its ints -/
theorem v_slen {z : Nat} (hd : decode K.1 pc = .ok (.arraylength, 1)) (hp : pc + 1 = pc') (kk : V C l K R Po pc' L (.int (nI (cN C)) :: st) S I J u) : V C l K R Po pc L (.retAddr z :: st) S I J u := by
  intro p e s m args below meth c hI H ls locs hM hL hS h1 h2
  subst hp
  obtain ⟨hC, hx, hb, hr, hml, hown, hlk, hh, hG, ⟨S0, I0, J0, hM0⟩, hnm⟩ := id hI
  have hX : va_X (cB C) (cN C) (cX C) s s.heap := (va_X.moved hG.1.alike hC.2.2.2.2.1).kept (hG.2 _ hC.2.2.2.2.2.1)
  have hbl : cB C < s.heap.size := by have h := hM0.1; have h' := hC.2.2.2.2.2.1; omega
  refine va_slen hx hb hX hbl (Nat.not_le.mpr hC.2.2.2.2.2.1) hS hd ?_
  exact kk p e s m args below meth c hI H ls locs hM hL hS h1 h2
theorem v_sld {z j : Nat} {i : Int32} (hd : decode K.1 pc = .ok (.iaload, 1)) (hi : i = nI j) (hj : j < cN C) (hn : cN C ≤ 2560) (hp : pc + 1 = pc') (kk : V C l K R Po pc' L (.int (cX C j) :: st) S I J u) : V C l K R Po pc L (.int i :: .retAddr z :: st) S I J u := by
  intro p e s m args below meth c hI H ls locs hM hL hS h1 h2
  subst hp
  obtain ⟨hC, hx, hb, hr, hml, hown, hlk, hh, hG, ⟨S0, I0, J0, hM0⟩, hnm⟩ := id hI
  have hX : va_X (cB C) (cN C) (cX C) s s.heap := (va_X.moved hG.1.alike hC.2.2.2.2.1).kept (hG.2 _ hC.2.2.2.2.2.1)
  have hbl : cB C < s.heap.size := by have h := hM0.1; have h' := hC.2.2.2.2.2.1; omega
  refine va_sld hx hb hX hbl (Nat.not_le.mpr hC.2.2.2.2.2.1) hS (i := i) (by rw [hi]; exact vp_in_nI hj (by omega)) hd ?_
  rw [show i.toNatClampNeg = j by rw [hi]; exact nI_clamp (by omega)]
  exact kk p e s m args below meth c hI H ls locs hM hL hS h1 h2
theorem v_lcmp {x y : Int64} (hd : decode K.1 pc = .ok (.lcmp, 1)) (hp : pc + 1 = pc') (kk : V C l K R Po pc' L (.int (lg_cmp x y) :: st) S I J u) : V C l K R Po pc L (.long y :: .long x :: st) S I J u := by
  intro p e s m args below meth c hI H ls locs hM hL hS h1 h2
  subst hp
  exact W.lcmp hI.2.1 hI.2.2.1 hd (kk p e s m args below meth c hI H ls locs hM hL hS h1 h2)
theorem v_ldc2 {idx : Nat} {v : Int64} (hd : decode K.1 pc = .ok (.ldc2_w idx, 3)) (hw : Wd (.constantLong K.2.1 idx v)) (hp : pc + 3 = pc') (kk : V C l K R Po pc' L (.long v :: st) S I J u) : V C l K R Po pc L st S I J u := by
  intro p e s m args below meth c hI H ls locs hM hL hS h1 h2
  subst hp
  obtain ⟨hC, hx, hb, hr, hml, hown, hlk, hh, hG, hM0, hnm⟩ := id hI
  exact lv_ldc2 hx hb hown (hw.at hC hG.1 args) hd (kk p e s m args below meth c hI H ls locs hM hL hS h1 h2)
theorem v_tabO {dflt lo hi : Int} {offs : Array Int} {len : Nat} {x : Int32} {tgt : Nat} (hd : decode K.1 pc = .ok (.tableswitch dflt lo hi offs, len)) (h : x.toInt < lo ∨ hi < x.toInt) (ht : (pc : Int) + dflt = (tgt : Int)) (kk : V C l K R Po tgt L st S I J u) : V C l K R Po pc L (.int x :: st) S I J u := by
  intro p e s m args below meth c hI H ls locs hM hL hS h1 h2
  exact lv_tableOut hI.2.1 hI.2.2.1 hd h ht (kk p e s m args below meth c hI H ls locs hM hL hS h1 h2)
theorem v_tabI {dflt lo hi : Int} {offs : Array Int} {len : Nat} {x : Int32} {off : Int} {tgt : Nat} (hd : decode K.1 pc = .ok (.tableswitch dflt lo hi offs, len)) (h1 : ¬ x.toInt < lo) (h2 : ¬ hi < x.toInt) (ho : offs[(x.toInt - lo).toNat]? = some off) (ht : (pc : Int) + off = (tgt : Int)) (kk : V C l K R Po tgt L st S I J u) : V C l K R Po pc L (.int x :: st) S I J u := by
  intro p e s m args below meth c hI H ls locs hM hL hS g1 g2
  exact lv_tableIn hI.2.1 hI.2.2.1 hd h1 h2 ho ht (kk p e s m args below meth c hI H ls locs hM hL hS g1 g2)
end Rows
