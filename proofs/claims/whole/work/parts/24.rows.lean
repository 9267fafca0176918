/-! ===== ROWS FOR CALLS OF PLAIN METHODS; Math.min, Math.max; references answered ===== -/
/-- ends that return -/
def PR (P : Option Value → ShT → DI → DJ → Prop) : PoT := fun r S I J => match r with
  | .inl v => P v S I J
  | .inr _ => False
/-- a value, nothing changes -/
def PP (x : Value) (S : ShT) (I : DI) (J : DJ) : PoT := PR (fun v S' I' J' => v = some x ∧ S' = S ∧ I' = I ∧ J' = J)
/-- no value; the ints change, or ints and longs -/
def PU (S : ShT) (J : DJ) (Q : DI → Prop) : PoT := PR (fun v S' I' J' => v = none ∧ S' = S ∧ J' = J ∧ Q I')
def PW (S : ShT) (Q : DI → DJ → Prop) : PoT := PR (fun v S' I' J' => v = none ∧ S' = S ∧ Q I' J')
/-- an int; the ints change, or ints and longs -/
def PI (S : ShT) (J : DJ) (Q : Int32 → DI → Prop) : PoT := PR (fun v S' I' J' => S' = S ∧ J' = J ∧ ∃ x, v = some (.int x) ∧ Q x I')
def PJ (S : ShT) (Q : Int32 → DI → DJ → Prop) : PoT := PR (fun v S' I' J' => S' = S ∧ ∃ x, v = some (.int x) ∧ Q x I' J')
section Rows
variable {C : CT} {l : Launch} {K K' : KT} {R : RT} {d' : Nat} {Po : PoT} {pc pc' : Nat} {L L' : LT} {st stk : List Value} {S S' : ShT} {I I' : DI} {J J' : DJ} {u : Nat × Nat} {y : MethodName} {as : List Value} {P : Option Value → ShT → DI → DJ → Prop} {x : Value}
theorem v_cV {b ci idx n : Nat} (hd : decode K.1 pc = .ok (.invokevirtual idx, 3)) (hk : CsV K.2.1 idx K' y n) (hSp : Sp C l K' y (d', 0, 0) (.ref b :: as) S I J (PR P)) (hb0 : isO S b ci) (hc : ci < 12) (hcy : kN ci = y.cls) (hn : as.length = n) (hst : as.reverse ++ .ref b :: st = stk) (hw : (st.map fun v => v.category).sum ≤ 8) (hfr : d' + 1 ≤ R.1) (hp : pc + 3 = pc')
    (kk : ∀ (v : Option Value) (S' : ShT) (I' : DI) (J' : DJ), P v S' I' J' → V C l K R Po pc' L (v.toList ++ st) S' I' J' u) : V C l K R Po pc L stk S I J u := by
  intro p e s m args below meth c hI H ls locs hM hL hS h1 h2
  exact v_callV hd hk hSp hb0 hc hcy hn hst hw hfr ⟨h1, h2⟩ hp kk (fun _ _ _ _ _ h => False.elim h) p e s m args below meth c hI H ls locs hM hL hS h1 h2
theorem v_cS {idx n : Nat} (hd : decode K.1 pc = .ok (.invokestatic idx, 3)) (hk : CsS K.2.1 idx K' y n) (hSp : Sp C l K' y (d', 0, 0) as S I J (PR P)) (hn : as.length = n) (hst : as.reverse ++ st = stk) (hw : (st.map fun v => v.category).sum ≤ 8) (hfr : d' + 1 ≤ R.1) (hp : pc + 3 = pc')
    (kk : ∀ (v : Option Value) (S' : ShT) (I' : DI) (J' : DJ), P v S' I' J' → V C l K R Po pc' L (v.toList ++ st) S' I' J' u) : V C l K R Po pc L stk S I J u := by
  intro p e s m args below meth c hI H ls locs hM hL hS h1 h2
  exact v_callS hd hk hSp hn hst hw hfr ⟨h1, h2⟩ hp kk (fun _ _ _ _ _ h => False.elim h) p e s m args below meth c hI H ls locs hM hL hS h1 h2
theorem v_cN {idx n : Nat} (hd : decode K.1 pc = .ok (.invokestatic idx, 3)) (hk : CsN K.2.1 idx K' y n) (hSp : Sp C l K' y (d', 0, 0) as S I J (PR P)) (hn : as.length = n) (hst : as.reverse ++ st = stk) (hw : (st.map fun v => v.category).sum ≤ 8) (hfr : d' + 1 ≤ R.1) (hp : pc + 3 = pc')
    (kk : ∀ (v : Option Value) (S' : ShT) (I' : DI) (J' : DJ), P v S' I' J' → V C l K R Po pc' L (v.toList ++ st) S' I' J' u) : V C l K R Po pc L stk S I J u := by
  intro p e s m args below meth c hI H ls locs hM hL hS h1 h2
  exact v_callN hd hk hSp hn hst hw hfr ⟨h1, h2⟩ hp kk (fun _ _ _ _ _ h => False.elim h) p e s m args below meth c hI H ls locs hM hL hS h1 h2
theorem v_cVp {b ci idx n : Nat} (hd : decode K.1 pc = .ok (.invokevirtual idx, 3)) (hk : CsV K.2.1 idx K' y n) (hSp : Sp C l K' y (d', 0, 0) (.ref b :: as) S I J (PP x S I J)) (hb0 : isO S b ci) (hc : ci < 12) (hcy : kN ci = y.cls) (hn : as.length = n) (hst : as.reverse ++ .ref b :: st = stk) (hw : (st.map fun v => v.category).sum ≤ 8) (hfr : d' + 1 ≤ R.1) (hp : pc + 3 = pc')
    (kk : V C l K R Po pc' L (x :: st) S I J u) : V C l K R Po pc L stk S I J u :=
  v_cV hd hk hSp hb0 hc hcy hn hst hw hfr hp (by rintro _ _ _ _ ⟨rfl, rfl, rfl, rfl⟩; exact kk)
theorem v_cSp {idx n : Nat} (hd : decode K.1 pc = .ok (.invokestatic idx, 3)) (hk : CsS K.2.1 idx K' y n) (hSp : Sp C l K' y (d', 0, 0) as S I J (PP x S I J)) (hn : as.length = n) (hst : as.reverse ++ st = stk) (hw : (st.map fun v => v.category).sum ≤ 8) (hfr : d' + 1 ≤ R.1) (hp : pc + 3 = pc')
    (kk : V C l K R Po pc' L (x :: st) S I J u) : V C l K R Po pc L stk S I J u :=
  v_cS hd hk hSp hn hst hw hfr hp (by rintro _ _ _ _ ⟨rfl, rfl, rfl, rfl⟩; exact kk)
theorem v_cNp {idx n : Nat} (hd : decode K.1 pc = .ok (.invokestatic idx, 3)) (hk : CsN K.2.1 idx K' y n) (hSp : Sp C l K' y (d', 0, 0) as S I J (PP x S I J)) (hn : as.length = n) (hst : as.reverse ++ st = stk) (hw : (st.map fun v => v.category).sum ≤ 8) (hfr : d' + 1 ≤ R.1) (hp : pc + 3 = pc')
    (kk : V C l K R Po pc' L (x :: st) S I J u) : V C l K R Po pc L stk S I J u :=
  v_cN hd hk hSp hn hst hw hfr hp (by rintro _ _ _ _ ⟨rfl, rfl, rfl, rfl⟩; exact kk)
theorem v_cVu {b ci idx n : Nat} {Q : DI → Prop} (hd : decode K.1 pc = .ok (.invokevirtual idx, 3)) (hk : CsV K.2.1 idx K' y n) (hSp : Sp C l K' y (d', 0, 0) (.ref b :: as) S I J (PU S J Q)) (hb0 : isO S b ci) (hc : ci < 12) (hcy : kN ci = y.cls) (hn : as.length = n) (hst : as.reverse ++ .ref b :: st = stk) (hw : (st.map fun v => v.category).sum ≤ 8) (hfr : d' + 1 ≤ R.1) (hp : pc + 3 = pc')
    (kk : ∀ I', Q I' → V C l K R Po pc' L st S I' J u) : V C l K R Po pc L stk S I J u :=
  v_cV hd hk hSp hb0 hc hcy hn hst hw hfr hp (by rintro _ _ I' _ ⟨rfl, rfl, rfl, h⟩; exact kk I' h)
theorem v_cVw {b ci idx n : Nat} {Q : DI → DJ → Prop} (hd : decode K.1 pc = .ok (.invokevirtual idx, 3)) (hk : CsV K.2.1 idx K' y n) (hSp : Sp C l K' y (d', 0, 0) (.ref b :: as) S I J (PW S Q)) (hb0 : isO S b ci) (hc : ci < 12) (hcy : kN ci = y.cls) (hn : as.length = n) (hst : as.reverse ++ .ref b :: st = stk) (hw : (st.map fun v => v.category).sum ≤ 8) (hfr : d' + 1 ≤ R.1) (hp : pc + 3 = pc')
    (kk : ∀ I' J', Q I' J' → V C l K R Po pc' L st S I' J' u) : V C l K R Po pc L stk S I J u :=
  v_cV hd hk hSp hb0 hc hcy hn hst hw hfr hp (by rintro _ _ I' J' ⟨rfl, rfl, h⟩; exact kk I' J' h)
theorem v_cVi {b ci idx n : Nat} {Q : Int32 → DI → Prop} (hd : decode K.1 pc = .ok (.invokevirtual idx, 3)) (hk : CsV K.2.1 idx K' y n) (hSp : Sp C l K' y (d', 0, 0) (.ref b :: as) S I J (PI S J Q)) (hb0 : isO S b ci) (hc : ci < 12) (hcy : kN ci = y.cls) (hn : as.length = n) (hst : as.reverse ++ .ref b :: st = stk) (hw : (st.map fun v => v.category).sum ≤ 8) (hfr : d' + 1 ≤ R.1) (hp : pc + 3 = pc')
    (kk : ∀ x I', Q x I' → V C l K R Po pc' L (.int x :: st) S I' J u) : V C l K R Po pc L stk S I J u :=
  v_cV hd hk hSp hb0 hc hcy hn hst hw hfr hp (by rintro _ _ I' J' ⟨rfl, rfl, x, rfl, h⟩; exact kk x I' h)
theorem v_cVj {b ci idx n : Nat} {Q : Int32 → DI → DJ → Prop} (hd : decode K.1 pc = .ok (.invokevirtual idx, 3)) (hk : CsV K.2.1 idx K' y n) (hSp : Sp C l K' y (d', 0, 0) (.ref b :: as) S I J (PJ S Q)) (hb0 : isO S b ci) (hc : ci < 12) (hcy : kN ci = y.cls) (hn : as.length = n) (hst : as.reverse ++ .ref b :: st = stk) (hw : (st.map fun v => v.category).sum ≤ 8) (hfr : d' + 1 ≤ R.1) (hp : pc + 3 = pc')
    (kk : ∀ x I' J', Q x I' J' → V C l K R Po pc' L (.int x :: st) S I' J' u) : V C l K R Po pc L stk S I J u :=
  v_cV hd hk hSp hb0 hc hcy hn hst hw hfr hp (by rintro _ _ I' J' ⟨rfl, x, rfl, h⟩; exact kk x I' J' h)
theorem v_aret {r : Nat} (hd : decode K.1 pc = .ok (.areturn, 1)) (ht : (∃ n, K.2.2.2.2.2 = some (.object n)) ∨ ∃ t, K.2.2.2.2.2 = some (.array t)) (hp : Po (.inl (some (.ref r))) S I J) : V C l K R Po pc L [.ref r] S I J u :=
  v_end hp (fun p e s m args below meth c hI H ls locs _ _ Qc hq hf => by
    have hlk : meth.locks = false := hI.2.2.2.2.2.2.1
    rcases ht with ⟨n, ht⟩ | ⟨n, ht⟩
    · exact W.aret hI.2.1 hI.2.2.1 (hI.2.2.2.1.trans ht) (Or.inl ⟨_, rfl⟩) (Or.inr ⟨_, rfl⟩) hq hf hd
    · exact W.aret hI.2.1 hI.2.2.1 (hI.2.2.2.1.trans ht) (Or.inr ⟨_, rfl⟩) (Or.inr ⟨_, rfl⟩) hq hf hd)
theorem v_max {idx : Nat} {x y : Int32} (hd : decode K.1 pc = .ok (.invokestatic idx, 3)) (hw : Wd (.methodLink K.2.1 idx y_Mt_max)) (hw2 : Wd (.static y_Mt_max)) (hR : 1 ≤ R.1) (hst : (st.map fun v => v.category).sum ≤ 8) (hp : pc + 3 = pc') (kk : V C l K R Po pc' L (.int (if x < y then y else x) :: st) S I J u) : V C l K R Po pc L (.int y :: .int x :: st) S I J u := by
  intro p e s m args below meth c hI H ls locs hM hL hS h1 h2
  subst hp
  obtain ⟨hC, hx, hb, hr, hml, hown, hlk, hh, hG, hM0, hnm⟩ := id hI
  have hst2 : ((st.map (cv C)).map fun v => v.category).sum ≤ 8 := by
    have : ((st.map (cv C)).map fun v => v.category) = st.map fun v => v.category := by
      rw [List.map_map]
      congr 1
      funext v
      exact cv_cat C v
    rw [this]
    exact hst
  exact va_mmax hx hb (hml.trans hL.1.symm) hown (hw.at hC hG.1 args) (hw2.at hC hG.1 args) (wi_Mt.at hC hG.1 args) (wc_Mt_max.at hC hG.1 args) hR (by show _ + 13 ≤ 36 * R.1; omega) h1 h2 hd (kk p e s m args below meth c hI H ls locs hM hL hS h1 h2)
theorem v_min {idx : Nat} {x y : Int32} (hd : decode K.1 pc = .ok (.invokestatic idx, 3)) (hw : Wd (.methodLink K.2.1 idx y_Mt_min)) (hw2 : Wd (.static y_Mt_min)) (hR : 1 ≤ R.1) (hst : (st.map fun v => v.category).sum ≤ 8) (hp : pc + 3 = pc') (kk : V C l K R Po pc' L (.int (if y < x then y else x) :: st) S I J u) : V C l K R Po pc L (.int y :: .int x :: st) S I J u := by
  intro p e s m args below meth c hI H ls locs hM hL hS h1 h2
  subst hp
  obtain ⟨hC, hx, hb, hr, hml, hown, hlk, hh, hG, hM0, hnm⟩ := id hI
  have hst2 : ((st.map (cv C)).map fun v => v.category).sum ≤ 8 := by
    have : ((st.map (cv C)).map fun v => v.category) = st.map fun v => v.category := by
      rw [List.map_map]
      congr 1
      funext v
      exact cv_cat C v
    rw [this]
    exact hst
  exact va_mmin hx hb (hml.trans hL.1.symm) hown (hw.at hC hG.1 args) (hw2.at hC hG.1 args) (wi_Mt.at hC hG.1 args) (wc_Mt_min.at hC hG.1 args) hR (by show _ + 13 ≤ 36 * R.1; omega) h1 h2 hd (kk p e s m args below meth c hI H ls locs hM hL hS h1 h2)
end Rows
