/-! ===== what a call leaves alone; a step of both ===== -/
def FrC (I : DI) (J : DJ) (I' : DI) (J' : DJ) : Prop := (∀ b, 124 ≤ b → I' b = I b) ∧ ∀ b, 124 ≤ b → J' b = J b
def FrD (I : DI) (J : DJ) (I' : DI) (J' : DJ) : Prop := (∀ b, b < 124 ∨ 148 ≤ b → I' b = I b) ∧ ∀ b, b < 124 ∨ 148 ≤ b → J' b = J b
theorem FrC.rf {I : DI} {J : DJ} : FrC I J I J := ⟨fun _ _ => rfl, fun _ _ => rfl⟩
theorem FrD.rf {I : DI} {J : DJ} : FrD I J I J := ⟨fun _ _ => rfl, fun _ _ => rfl⟩
theorem FrD.th {I : DI} {J : DJ} {x : Int32} : FrD I J (u2 I 124 0 x) J := ⟨fun b hb => u2_o (by omega), fun _ _ => rfl⟩
theorem MkQ.fr {I I' : DI} {J J' : DJ} {a b : Int32} {p : Bool} {r : Int32 ⊕ Nat} (h : MkQ I J a b p r I' J') : FrC I J I' J' := by
  obtain ⟨rfl, h⟩ := h
  refine ⟨fun q hq => ?_, fun _ _ => rfl⟩
  rcases h with ⟨_, _, rfl⟩ | ⟨_, _, _, _, rfl⟩ | ⟨j, k, _, _, _, _, _, _, _, _, h⟩
  · rfl
  · rfl
  · have e : mk1 I j k p q = I q := by unfold mk1; rw [u2_o (by omega), u2_o (by omega), u2_o (by omega)]
    rcases h with ⟨_, rfl⟩ | ⟨_, h⟩
    · exact e
    · obtain ⟨_, _, _, _, _, _, _, h⟩ := h
      rw [h q (by omega) (by omega) (by omega), e]
theorem CtQ.fr {I I' : DI} {J J' : DJ} {a n : Int32} {r : Int32 ⊕ Nat} (h : CtQ I J a n r I' J') : FrC I J I' J' := by
  obtain ⟨rfl, h⟩ := h
  refine ⟨fun q hq => ?_, fun _ _ => rfl⟩
  rcases h with ⟨_, _, rfl⟩ | ⟨j, m, _, _, _, _, _, h⟩
  · rfl
  · rcases h with ⟨_, _, rfl⟩ | ⟨k, _, _, _, h⟩
    · rfl
    · rcases h with ⟨_, rfl⟩ | ⟨_, h⟩
      · rfl
      · obtain ⟨_, _, _, _, _, _, _, h⟩ := h
        rw [h q (by omega) (by omega) (by omega), u2_o (by omega)]
theorem MvQ.fr {I I' : DI} {J J' : DJ} {a b : Int32} {r : Int32 ⊕ Nat} (h : MvQ I J a b r I' J') : FrC I J I' J' := by
  obtain ⟨rfl, h⟩ := h
  refine ⟨fun q hq => ?_, fun _ _ => rfl⟩
  rcases h with ⟨_, _, rfl⟩ | ⟨_, _, _, _, rfl⟩ | ⟨j, k, _, _, _, _, _, _, _, h⟩
  · rfl
  · rfl
  · rcases h with ⟨_, _, rfl⟩ | ⟨_, _, ⟨_, _, rfl⟩ | ⟨_, _, rfl⟩⟩
    · rfl
    · rfl
    · rw [u2_o (by omega)]
theorem TyQ.fr {I I' : DI} {J J' : DJ} {n : Nat} {x : Int32} {r : Int32 ⊕ Nat} (h : TyQ I J n x r I' J') : FrC I J I' J' := by
  obtain ⟨rfl, h⟩ := h
  refine ⟨fun q hq => ?_, fun _ _ => rfl⟩
  rcases h with ⟨_, _, rfl⟩ | ⟨_, _, _, rfl⟩ | ⟨_, _, _, rfl⟩
  · rfl
  · rfl
  · rw [u2_o (by omega), u2_o (by omega)]
theorem RsQ.fr {I I' : DI} {J J' : DJ} {q : Nat} {x y : Int32} {r : Int32 ⊕ Nat} (h : RsQ I J q x y r I' J') : FrC I J I' J' := by
  obtain ⟨rfl, rfl, _⟩ := h; exact FrC.rf
theorem WoQ.fr {I I' : DI} {J J' : DJ} {x : Int32} {r : Int32 ⊕ Nat} (h : WoQ I J x r I' J') : FrC I J I' J' := by
  obtain ⟨rfl, rfl, _⟩ := h; exact FrC.rf
theorem EvQ.fr {I I' : DI} {J J' : DJ} {m : Nat} {x : Int32} {r : Int32 ⊕ Nat} (h : EvQ I J m x r I' J') : FrC I J I' J' := by
  obtain ⟨rfl, rfl, _⟩ := h; exact FrC.rf
theorem CnQ.fr {I I' : DI} {J J' : DJ} {x : Int32} {r : Int32 ⊕ Nat} (h : CnQ I J x r I' J') : FrC I J I' J' := by
  obtain ⟨rfl, rfl, _⟩ := h; exact FrC.rf
theorem WrQ.fr {I I' : DI} {J J' : DJ} {a n : Int32} {v : Int64} {r : Int32 ⊕ Nat} (h : WrQ I J a v n r I' J') : FrC I J I' J' := by
  obtain ⟨rfl, h⟩ := h
  refine ⟨fun q hq => ?_, fun _ _ => rfl⟩
  rcases h with ⟨_, _, rfl⟩ | ⟨j, m, _, _, _, _, _, h⟩
  · rfl
  · rcases h with ⟨_, _, rfl⟩ | ⟨k, _, _, _, _, h⟩
    · rfl
    · rcases h with ⟨_, _, rfl⟩ | ⟨_, _, h⟩
      · rfl
      · obtain ⟨_, _, _, _, _, _, _, h⟩ := h
        rw [h q (by omega) (by omega) (by omega), wrF_o _ _ _ _ _ (by omega) (by omega)]
theorem RvQ.fr {I I' : DI} {J J' : DJ} {a : Int32} {m : Nat} {r : Int32 ⊕ Nat} (hm : m ≤ 8) (h2 : I 22 2 = nI m) (h : RvQ I J a r I' J') : FrC I J I' J' := by
  obtain ⟨rfl, h⟩ := h
  refine ⟨fun q hq => ?_, fun _ _ => rfl⟩
  rcases h with ⟨_, _, rfl⟩ | ⟨_, _, _, rfl⟩ | ⟨j, c, _, _, _, _, h, _⟩
  · rfl
  · rfl
  · exact (RvC.inv hm h2 15 c I' h).2.1 q (by omega) (by omega) (by omega) (by omega)
theorem WkQ.fr {I I' : DI} {J J' : DJ} {n : Int32} {m : Nat} {r : Int32 ⊕ Nat} (h2 : I 22 2 = nI m) (h : WkQ I J m n r I' J') : FrC I J I' J' := by
  rcases h with ⟨_, _, rfl, rfl⟩ | ⟨k, _, _, _, ⟨_, _, rfl, rfl⟩ | ⟨_, _, h⟩⟩
  · exact FrC.rf
  · exact FrC.rf
  · obtain ⟨_, _, _, h4, h5⟩ := WkC.inv h2 _ _ _ (by omega) h
    exact ⟨fun b hb => h4 b (by omega), fun b hb => h5 b (by omega)⟩
theorem RcQ.fr {I I' : DI} {J J' : DJ} {x : Int32} (h : RcQ I J x I' J') : FrC I J I' J' := by
  obtain ⟨c, I1, _, h, _, rfl⟩ := h
  obtain ⟨_, h4, h5⟩ := RcC.inv 15 c I1 J' (by omega) h
  exact ⟨fun b hb => by rw [u2_o (by omega), u2_o (by omega)]; exact h4 b (by omega), fun b hb => h5 b (by omega)⟩
theorem SeQ.fr {I I' : DI} {J J' : DJ} {n : Nat} {a : Int32} {r : Int32 ⊕ Nat} (h : SeQ I J n a r I' J') : FrC I J I' J' := by
  rcases h with ⟨_, _, rfl, rfl⟩ | ⟨_, x, I1, ⟨⟨p1, p2, p3⟩, _⟩, h⟩
  · exact FrC.rf
  · refine ⟨fun b hb => ?_, fun b hb => p3 b (by omega)⟩
    have e : I1 b = I b := by rw [p1 b (by omega) (by omega), u2_o (by omega)]
    rcases h with ⟨_, _, rfl⟩ | ⟨_, ts, g, q, _, h, _⟩
    · rw [u2_o (by omega), u2_o (by omega), e]
    · have h0 : (u2 (u2 I1 0 5 (-1)) 76 1 0) 121 2 = nI 0 := by rw [u2_o (by decide), u2_o (by decide), p1 121 (by decide) (by decide), u2_s]; exact nI_0.symm
      rw [(SeC.inv h0 15 q I' h).2.2 b (by omega) (by omega) (by omega), u2_o (by omega), u2_o (by omega), e]
theorem MkM.fr {I I' : DI} {J : DJ} {a b x : Int32} {p : Bool} (h : MkM I a b p x I') : FrD I J I' J := by
  rcases h with ⟨_, _, rfl⟩ | ⟨_, _, _, _, rfl⟩ | ⟨j, k, _, _, _, _, _, _, _, _, h⟩
  · exact FrD.th
  · exact FrD.th
  · refine ⟨fun q hq => ?_, fun _ _ => rfl⟩
    have e : mk1M I j k p q = I q := by unfold mk1M; rw [u2_o (by omega), u2_o (by omega), u2_o (by omega), u2_o (by omega)]
    rcases h with ⟨_, rfl⟩ | ⟨_, h⟩
    · exact e
    · obtain ⟨_, _, _, _, _, _, _, _, h⟩ := h
      rw [h q (by omega) (by omega) (by omega), e]
theorem CtM.fr {I I' : DI} {J : DJ} {a n x : Int32} (h : CtM I a n x I') : FrD I J I' J := by
  rcases h with ⟨_, _, rfl⟩ | ⟨j, m, _, _, _, _, _, h⟩
  · exact FrD.th
  · rcases h with ⟨_, _, rfl⟩ | ⟨k, _, _, _, h⟩
    · exact FrD.th
    · refine ⟨fun q hq => ?_, fun _ _ => rfl⟩
      rcases h with ⟨_, rfl⟩ | ⟨_, h⟩
      · rw [u2_o (by omega)]
      · obtain ⟨_, _, _, _, _, _, _, _, h⟩ := h
        rw [h q (by omega) (by omega) (by omega), u2_o (by omega)]
theorem MvM.fr {I I' : DI} {J : DJ} {a b x : Int32} (h : MvM I a b x I') : FrD I J I' J := by
  rcases h with ⟨_, _, rfl⟩ | ⟨_, _, _, _, rfl⟩ | ⟨j, k, _, _, _, _, _, _, _, h⟩
  · exact FrD.th
  · exact FrD.th
  · rcases h with ⟨_, _, rfl⟩ | ⟨_, _, _, rfl⟩
    · exact FrD.th
    · exact ⟨fun q hq => u2_o (by omega), fun _ _ => rfl⟩
theorem TyM.fr {I I' : DI} {J : DJ} {n : Nat} {x r : Int32} (h : TyM I n x r I') : FrD I J I' J := by
  rcases h with ⟨_, _, rfl⟩ | ⟨_, _, _, rfl⟩ | ⟨_, _, _, rfl⟩
  · exact FrD.th
  · exact FrD.th
  · exact ⟨fun q hq => by rw [u2_o (by omega), u2_o (by omega)], fun _ _ => rfl⟩
theorem RsM.fr {I I' : DI} {J : DJ} {q : Nat} {x y r : Int32} (h : RsM I q x y r I') : FrD I J I' J := by
  rcases h with ⟨_, _, rfl⟩ | ⟨j, _, _, ⟨_, _, _, rfl⟩ | ⟨_, _, rfl⟩ | ⟨_, _, rfl⟩⟩
  · exact FrD.th
  · exact FrD.th
  · exact FrD.rf
  · exact FrD.rf
theorem WoM.fr {I I' : DI} {J : DJ} {x r : Int32} (h : WoM I x r I') : FrD I J I' J := by
  rcases h with ⟨_, _, rfl⟩ | ⟨j, _, _, _, _, rfl⟩
  · exact FrD.th
  · exact FrD.rf
theorem EvM.fr {I I' : DI} {J : DJ} {m : Nat} {x r : Int32} (h : EvM I m x r I') : FrD I J I' J := by
  rcases h with ⟨_, _, rfl⟩ | ⟨j, _, _, _, rfl⟩
  · exact FrD.th
  · exact FrD.rf
theorem CnM.fr {I I' : DI} {J : DJ} {x r : Int32} (h : CnM I x r I') : FrD I J I' J := by
  rcases h with ⟨_, _, rfl⟩ | ⟨_, _, rfl⟩ | ⟨_, _, rfl⟩ | ⟨_, _, rfl⟩ | ⟨_, _, rfl⟩ | ⟨_, _, rfl⟩
  · exact FrD.rf
  · exact FrD.rf
  · exact FrD.rf
  · exact FrD.rf
  · exact FrD.rf
  · exact FrD.th
theorem WrM.fr {I I' : DI} {J : DJ} {a n r : Int32} {v : Int64} (h : WrM I a v n r I') : FrD I J I' J := by
  rcases h with ⟨_, _, rfl⟩ | ⟨j, m, _, _, _, _, _, h⟩
  · exact FrD.th
  · rcases h with ⟨_, _, rfl⟩ | ⟨k, _, _, _, _, h⟩
    · exact FrD.th
    · rcases h with ⟨_, _, rfl⟩ | ⟨_, _, h⟩
      · exact FrD.th
      · refine ⟨fun q hq => ?_, fun _ _ => rfl⟩
        obtain ⟨_, _, _, _, _, _, _, _, h⟩ := h
        rw [h q (by omega) (by omega) (by omega), wrM_o _ _ _ _ _ (by omega) (by omega)]
theorem RvM.fr {I I' : DI} {J : DJ} {a x : Int32} {m : Nat} (hm : m ≤ 8) (h2 : I 124 9 = nI m) (h : RvM I a x I') : FrD I J I' J := by
  rcases h with ⟨_, _, rfl⟩ | ⟨_, _, _, rfl⟩ | ⟨j, c, I1, _, _, _, _, h, hc, _⟩
  · exact FrD.th
  · exact FrD.th
  · refine ⟨fun q hq => ?_, fun _ _ => rfl⟩
    rw [(RvMC.inv hm (by rw [h 124 (by decide)]; exact h2) 16 c I' hc).2.1 q (by omega) (by omega) (by omega) (by omega)]
    exact h q (by omega)
theorem WkM.fr {I I' : DI} {J J' : DJ} {n r : Int32} {m : Nat} (h2 : I 124 9 = nI m) (h : WkM I J m n r I' J') : FrD I J I' J' := by
  rcases h with ⟨_, _, rfl, rfl⟩ | ⟨k, _, _, _, ⟨_, _, rfl, rfl⟩ | ⟨_, _, h⟩⟩
  · exact FrD.th
  · exact FrD.th
  · obtain ⟨_, _, _, h4, h5⟩ := WkMC.inv h2 _ _ _ (by omega) h
    exact ⟨fun b hb => h4 b (by omega) (by omega) (by omega) (by omega) (by omega) (by omega) (by omega), fun b hb => h5 b (by omega)⟩
theorem RcM.fr {I I' : DI} {J J' : DJ} {x : Int32} (h : RcM I J x I' J') : FrD I J I' J' := by
  obtain ⟨c, I1, _, h, _, rfl⟩ := h
  obtain ⟨_, h4, _, h5⟩ := RcMC.inv 16 c I1 J' h
  exact ⟨fun b hb => by rw [u2_o (by omega), u2_o (by omega)]; exact h4 b (by omega) (by omega) (by omega) (by omega) (by omega), fun b hb => h5 b (by omega)⟩
theorem SeM.fr {I I' : DI} {J J' : DJ} {n : Nat} {a r : Int32} (h : SeM I J n a r I' J') : FrD I J I' J' := by
  rcases h with ⟨_, _, rfl, rfl⟩ | ⟨_, x, I1, ⟨⟨k1, k2, k3, k4, k5, k6⟩, _⟩, h⟩
  · exact FrD.th
  · refine ⟨fun b hb => ?_, fun b hb => k5 b (by omega)⟩
    have e : se4 I1 b = I b := by unfold se4; rw [u2_o (by omega), u2_o (by omega), u2_o (by omega)]; exact k1 b (by omega) (by omega) (by omega)
    rcases h with ⟨_, _, rfl⟩ | ⟨_, ts, g, q, _, h, _⟩
    · rw [u2_o (by omega), e]
    · have h0 : se4 I1 124 33 = nI 0 := by unfold se4; rw [u2_n (Or.inr (by decide)), u2_s]; exact nI_0.symm
      rw [(SeMC.inv h0 16 q I' h).2.2.2 b (by omega) (by omega) (by omega), e]
/-- one call of both -/
theorem st_gen {T : Nat → Int32} {r : Int32 ⊕ Nat} {x : Int32} {I I1 I2 I3 : DI} {J J1 J2 J3 : DJ} (h : REL I J I J) (hc : FrC I J I1 J1) (e : ∀ b, b < 148 → I2 b = I1 b) (ej : ∀ b, b < 148 → J2 b = J1 b)
    (hm : FrD (u2 I2 124 0 0) J2 I3 J3) (ag : REL I J (u2 I2 124 0 0) J2 → u2 I2 124 0 0 124 0 = 0 → AG T r x I3 ∧ REL I1 J1 I3 J3) : AG T r x I3 ∧ REL I3 J3 I3 J3 := by
  obtain ⟨a1, a2⟩ := ag (h.c (fun _ _ => rfl) (fun _ _ => rfl) (fun b b1 b2 => by rw [u2_o (by omega), e b b2, hc.1 b (by omega)]) (fun j hj => by rw [u2_n (Or.inr hj), e 124 (by decide), hc.1 124 (by decide)]) (fun b b1 b2 => by rw [ej b b2, hc.2 b (by omega)])) u2_s
  refine ⟨a1, a2.c (fun b hb => ?_) (fun b hb => ?_) (fun _ _ _ => rfl) (fun _ _ => rfl) (fun _ _ _ => rfl)⟩
  · rw [hm.1 b (Or.inl hb), u2_o (by omega), e b (by omega)]
  · rw [hm.2 b (Or.inl hb), ej b (by omega)]
/-- what the law sees: k from the class's helper, x and thrown from the model -/
theorem ag_cmp {T : Nat → Int32} {r : Int32 ⊕ Nat} {x k : Int32} {B : DI} (h : AG T r x B) (hk : match r with | .inl _ => k = 0 | .inr c => k = T c) : B 124 0 = k := by
  cases r with
  | inl y => rw [hk]; exact h.1
  | inr c => rw [hk]; exact h
