theorem st_b {I I1 I2 : DI} {J J1 J2 : DJ} (h : REL I J I J) (hc : FrC I J I1 J1) (e : ∀ b, b < 148 → I2 b = I1 b) (ej : ∀ b, b < 148 → J2 b = J1 b) : REL I J (u2 I2 124 0 0) J2 :=
  h.c (fun _ _ => rfl) (fun _ _ => rfl) (fun b b1 b2 => by rw [u2_o (by omega), e b b2, hc.1 b (by omega)]) (fun j hj => by rw [u2_n (Or.inr hj), e 124 (by decide), hc.1 124 (by decide)]) (fun b b1 b2 => by rw [ej b b2, hc.2 b (by omega)])
def HK (T : Nat → Int32) (r : Int32 ⊕ Nat) (k : Int32) (v : Int64) : Prop := match r with
  | .inl y => k = 0 ∧ v = y.toInt64
  | .inr c => k = T c ∧ ¬ T c = 0
theorem st_all {T : Nat → Int32} {r : Int32 ⊕ Nat} {x k : Int32} {I1 I2 I3 : DI} {J1 J2 J3 : DJ} (e : ∀ b, b < 148 → I2 b = I1 b) (ej : ∀ b, b < 148 → J2 b = J1 b) (hk : HK T r k (J2 148 0)) (hm : FrD (u2 I2 124 0 0) J2 I3 J3) (ag : AG T r x I3 ∧ REL I1 J1 I3 J3) :
    I3 124 0 = k ∧ (k = 0 → J3 148 0 = x.toInt64) ∧ REL I3 J3 I3 J3 := by
  obtain ⟨a1, a2⟩ := ag
  refine ⟨?_, fun h0 => ?_, a2.c (fun b hb => ?_) (fun b hb => ?_) (fun _ _ _ => rfl) (fun _ _ => rfl) (fun _ _ _ => rfl)⟩
  · cases r with
    | inl y => rw [hk.1]; exact a1.1
    | inr c => rw [hk.1]; exact a1
  · cases r with
    | inl y => rw [hm.2 148 (by omega), hk.2, a1.2]
    | inr c => exact absurd (hk.1.symm.trans h0) hk.2
  · rw [hm.1 b (Or.inl hb), u2_o (by omega), e b (by omega)]
  · rw [hm.2 b (Or.inl hb), ej b (by omega)]
theorem st_fault {I : DI} {J : DJ} (h : REL I J I J) : I 0 5 = I 124 30 ∧ REL (u2 I 124 0 0) J (u2 I 124 0 0) J := by
  refine ⟨h.1.2.2.2.1, h.c (fun b hb => u2_o (by omega)) (fun _ _ => rfl) (fun b hb _ => u2_o (by omega)) (fun j hj => u2_n (Or.inr hj)) (fun _ _ _ => rfl)⟩
theorem st_rescan {I I1 I3 : DI} {J J1 J3 : DJ} {x y : Int32} (h : REL I J I J) (ha : RcQ I J x I1 J1) (hb : RcM (u2 I1 124 0 0) J1 y I3 J3) : x = y ∧ REL I3 J3 I3 J3 := by
  have hB := st_b h ha.fr (fun _ _ => rfl) (fun _ _ => rfl)
  obtain ⟨a1, a2⟩ := rc_ag hB ha hb
  have hm := hb.fr
  exact ⟨a1, a2.c (fun b hb => by rw [hm.1 b (Or.inl hb), u2_o (by omega)]) (fun b hb => hm.2 b (Or.inl hb)) (fun _ _ _ => rfl) (fun _ _ => rfl) (fun _ _ _ => rfl)⟩
theorem MkQ.ex {I I' : DI} {J J' : DJ} {a b : Int32} {p : Bool} {c : Nat} (h : MkQ I J a b p (.inr c) I' J') : c = 9 ∨ c = 10 := by
  rcases h.2 with ⟨_, e, _⟩ | ⟨_, _, _, e, _⟩ | ⟨_, _, _, _, _, _, _, _, _, e, _⟩
  · injection e with e; exact Or.inl e
  · injection e with e; exact Or.inr e
  · cases e
theorem CtQ.ex {I I' : DI} {J J' : DJ} {a n : Int32} {c : Nat} (h : CtQ I J a n (.inr c) I' J') : c = 9 ∨ c = 11 := by
  rcases h.2 with ⟨_, e, _⟩ | ⟨_, _, _, _, _, _, _, ⟨_, e, _⟩ | ⟨_, _, _, e, _⟩⟩
  · injection e with e; exact Or.inr e
  · injection e with e; exact Or.inl e
  · cases e
theorem MvQ.ex {I I' : DI} {J J' : DJ} {a b : Int32} {c : Nat} (h : MvQ I J a b (.inr c) I' J') : c = 9 ∨ c = 10 ∨ c = 11 := by
  rcases h.2 with ⟨_, e, _⟩ | ⟨_, _, _, e, _⟩ | ⟨_, _, _, _, _, _, _, _, _, ⟨_, e, _⟩ | ⟨_, _, ⟨_, e, _⟩ | ⟨_, e, _⟩⟩⟩
  · injection e with e; exact Or.inl e
  · injection e with e; exact Or.inr (Or.inr e)
  · injection e with e; exact Or.inr (Or.inl e)
  · cases e
  · cases e
theorem TyQ.ex {I I' : DI} {J J' : DJ} {n : Nat} {x : Int32} {c : Nat} (h : TyQ I J n x (.inr c) I' J') : c = 9 ∨ c = 10 := by
  rcases h.2 with ⟨_, e, _⟩ | ⟨_, _, e, _⟩ | ⟨_, _, e, _⟩
  · injection e with e; exact Or.inl e
  · injection e with e; exact Or.inr e
  · cases e
theorem RsQ.ex {I I' : DI} {J J' : DJ} {q : Nat} {x y : Int32} {c : Nat} (h : RsQ I J q x y (.inr c) I' J') : c = 9 ∨ c = 11 := by
  rcases h.2.2 with ⟨_, e⟩ | ⟨_, _, _, ⟨_, _, e⟩ | ⟨_, e⟩ | ⟨_, e⟩⟩
  · injection e with e; exact Or.inr e
  · injection e with e; exact Or.inl e
  · cases e
  · cases e
theorem WoQ.ex {I I' : DI} {J J' : DJ} {x : Int32} {c : Nat} (h : WoQ I J x (.inr c) I' J') : c = 11 := by
  rcases h.2.2 with ⟨_, e⟩ | ⟨_, _, _, _, e⟩
  · injection e with e
  · cases e
theorem EvQ.ex {I I' : DI} {J J' : DJ} {m : Nat} {x : Int32} {c : Nat} (h : EvQ I J m x (.inr c) I' J') : c = 11 := by
  rcases h.2.2 with ⟨_, e⟩ | ⟨_, _, _, e⟩
  · injection e with e
  · cases e
theorem CnQ.ex {I I' : DI} {J J' : DJ} {x : Int32} {c : Nat} (h : CnQ I J x (.inr c) I' J') : c = 9 := by
  rcases h.2.2 with ⟨_, e⟩ | ⟨_, e⟩ | ⟨_, e⟩ | ⟨_, e⟩ | ⟨_, e⟩ | ⟨_, e⟩ | ⟨_, e⟩ | ⟨_, e⟩
  all_goals first
    | cases e; done
    | (injection e with e)
theorem WrQ.ex {I I' : DI} {J J' : DJ} {a n : Int32} {v : Int64} {c : Nat} (h : WrQ I J a v n (.inr c) I' J') : c = 9 ∨ c = 10 ∨ c = 11 := by
  rcases h.2 with ⟨_, e, _⟩ | ⟨_, _, _, _, _, _, _, ⟨_, e, _⟩ | ⟨_, _, _, _, _, ⟨_, e, _⟩ | ⟨_, e, _⟩⟩⟩
  · injection e with e; exact Or.inr (Or.inr e)
  · injection e with e; exact Or.inl e
  · injection e with e; exact Or.inr (Or.inl e)
  · cases e
theorem RvQ.ex {I I' : DI} {J J' : DJ} {a : Int32} {c : Nat} (h : RvQ I J a (.inr c) I' J') : c = 9 ∨ c = 11 := by
  rcases h.2 with ⟨_, e, _⟩ | ⟨_, _, e, _⟩ | ⟨_, _, _, _, _, _, _, e⟩
  · injection e with e; exact Or.inl e
  · injection e with e; exact Or.inr e
  · cases e
theorem WkQ.ex {I I' : DI} {J J' : DJ} {m : Nat} {n : Int32} {c : Nat} (h : WkQ I J m n (.inr c) I' J') : c = 9 ∨ c = 10 := by
  rcases h with ⟨_, e, _⟩ | ⟨_, _, _, _, ⟨_, e, _⟩ | ⟨_, e, _⟩⟩
  · injection e with e; exact Or.inl e
  · injection e with e; exact Or.inr e
  · cases e
theorem SeQ.ex {I I' : DI} {J J' : DJ} {n : Nat} {a : Int32} {c : Nat} (h : SeQ I J n a (.inr c) I' J') : c = 9 ∨ c = 11 := by
  rcases h with ⟨_, e, _⟩ | ⟨_, _, _, _, ⟨_, e, _⟩ | ⟨_, _, _, _, _, _, e⟩⟩
  · injection e with e; exact Or.inr e
  · injection e with e; exact Or.inl e
  · cases e
