set_option maxHeartbeats 4000000 in
set_option maxRecDepth 100000 in
theorem lp3_En_take {C : CT} {l : Launch} {S : ShT} {d : Nat} (hC : OKC C l) (hS : SHP S) (hd : 2 ≤ d) {I0 : DI} {J0 : DJ} {i m T k : Nat} (hi : i < 16) (hm : m ≤ 60) (hk : k < m) {q : Nat} (hq : q = if isLt (I0 (5 + i) k) then (scn (I0 (5 + i)) m k).2 + 1 else (scn (I0 (5 + i)) m k).2) (ih : ∀ (I : DI) (J : DJ), TkI I0 J0 i m T (k + 1) I J → V C l k_En_take (d, 0, 0) (PW S (TkI I0 J0 i m T m)) 20 [(7, .int (nI (k + 1))), (5, .long (wC (I0 (5 + i)) (k + 1 - (scn (I0 (5 + i)) m (k + 1)).2) (scn (I0 (5 + i)) m (k + 1)).2)), (4, .int (nI (scn (I0 (5 + i)) m (k + 1)).2)), (3, .int (nI T)), (0, .ref (28 + 3 * i)), (1, .ref (5 + i)), (2, .int (nI m))] [] S I J (0, 0)) {I : DI} {J : DJ} (hT : TkI I0 J0 i m T k I J) {re : Bool} (hTm : T ≤ m) (hre : (re = true) = (k + 1 = m ∨ isLt (I0 (5 + i) (k + 1)) = false)) : V C l k_En_take (d, 0, 0) (PW S (TkI I0 J0 i m T m)) 86 [(8, .int (bI re)), (7, .int (nI k)), (5, .long (wC (I0 (5 + i)) (k + 1 - q) q)), (4, .int (nI q)), (3, .int (nI T)), (0, .ref (28 + 3 * i)), (1, .ref (5 + i)), (2, .int (nI m))] [] S I J (0, 0) := by
  have hqk : q ≤ k + 1 := by have h9 := (scn_inv (I0 (5 + i)) m k (by omega)).2.1; rcases Nat.eq_zero_or_pos (scn (I0 (5 + i)) m k).2 with h8 | h8; (rw [hq, h8]; split <;> omega); have := (h9 h8).1; rw [hq]; split <;> omega
  have hcI : I (5 + i) = I0 (5 + i) := hT.2.2.1 (5 + i) (by omega) (by omega)
  refine v_iload 3 d_En_take_86 rfl rfl ?_
  refine v_if_le (tgt := 124) d_En_take_88 (by decide) rfl (fun c1 => ?_) (fun c1 => ?_)
  · have hn0 : ¬ 0 < q := fun h9 => absurd c1 (nI_nle h9 (by omega))
    obtain ⟨x2, ex2⟩ : ∃ y : Int32, y = (nI k) + 1 := ⟨_, rfl⟩
    have nx2 : x2 = nI (k + 1) := by rw [ex2, show nI k = nI k from rfl]; exact nI_1 _
    refine v_iinc (n := 1) (v := x2) (L' := [(7, .int x2), (8, .int (bI re)), (5, .long (wC (I0 (5 + i)) (k + 1 - q) q)), (4, .int (nI q)), (3, .int (nI T)), (0, .ref (28 + 3 * i)), (1, .ref (5 + i)), (2, .int (nI m))]) d_En_take_124 rfl (by rw [ex2]; rfl) (by decide) rfl rfl ?_
    refine v_goto (tgt := 20) d_En_take_127 (by decide) ?_
    refine v_sub (L' := [(7, .int x2), (5, .long (wC (I0 (5 + i)) (k + 1 - q) q)), (4, .int (nI q)), (3, .int (nI T)), (0, .ref (28 + 3 * i)), (1, .ref (5 + i)), (2, .int (nI m))]) [0, 2, 3, 4, 5, 6, 7] rfl ?_
    obtain ⟨g1, g2⟩ := hT.go hq (by first | exact fun h8 => absurd h8.1 hn0 | exact fun h8 => hnr h8.2)
    have h9 := ih _ _ g1
    rw [g2] at h9
    rw [nx2]
    exact h9
  · have h0 : 0 < q := by rcases Nat.eq_zero_or_pos q with h9 | h9; exact absurd (by rw [h9]; exact Int32.le_refl _) c1; exact h9
    refine v_iload 0 d_En_take_91 rfl rfl ?_
    refine v_if_eq (tgt := 124) d_En_take_93 (by decide) rfl (fun c3 => ?_) (fun c3 => ?_)
    · have hnr : ¬ (k + 1 = m ∨ isLt (I0 (5 + i) (k + 1)) = false) := by rw [← hre]; intro h9; rw [h9] at c3; exact absurd c3 (by decide)
      obtain ⟨x4, ex4⟩ : ∃ y : Int32, y = (nI k) + 1 := ⟨_, rfl⟩
      have nx4 : x4 = nI (k + 1) := by rw [ex4, show nI k = nI k from rfl]; exact nI_1 _
      refine v_iinc (n := 1) (v := x4) (L' := [(7, .int x4), (8, .int (bI re)), (5, .long (wC (I0 (5 + i)) (k + 1 - q) q)), (4, .int (nI q)), (3, .int (nI T)), (0, .ref (28 + 3 * i)), (1, .ref (5 + i)), (2, .int (nI m))]) d_En_take_124 rfl (by rw [ex4]; rfl) (by decide) rfl rfl ?_
      refine v_goto (tgt := 20) d_En_take_127 (by decide) ?_
      refine v_sub (L' := [(7, .int x4), (5, .long (wC (I0 (5 + i)) (k + 1 - q) q)), (4, .int (nI q)), (3, .int (nI T)), (0, .ref (28 + 3 * i)), (1, .ref (5 + i)), (2, .int (nI m))]) [0, 2, 3, 4, 5, 6, 7] rfl ?_
      obtain ⟨g1, g2⟩ := hT.go hq (by first | exact fun h8 => absurd h8.1 hn0 | exact fun h8 => hnr h8.2)
      have h9 := ih _ _ g1
      rw [g2] at h9
      rw [nx4]
      exact h9
    · have hr : k + 1 = m ∨ isLt (I0 (5 + i) (k + 1)) = false := by rw [← hre]; cases re; exact absurd rfl c3; rfl
      refine v_aload_n 5 d_En_take_96 rfl rfl rfl ?_
      refine v_lload 2 d_En_take_97 rfl rfl ?_
      refine v_iload 1 d_En_take_99 rfl rfl ?_
      refine v_iconst (v := 1) d_En_take_101 (by decide) rfl ?_
      refine v_iadd d_En_take_102 rfl ?_
      refine v_nmi (fun z5 ez5 => ?_)
      have nz5 : z5 = nI (k + 1) := by rw [ez5, show nI k = nI k from rfl, show 1 = nI 1 from rfl]; exact nI_add _ _
      refine v_iload 3 d_En_take_103 rfl rfl ?_
      refine v_isub d_En_take_105 rfl ?_
      refine v_nmi (fun z6 ez6 => ?_)
      have nz6 : z6 = nI ((k + 1) - q) := by rw [ez6, show z5 = nI (k + 1) from nz5, show nI q = nI q from rfl]; exact pk_sub (by omega)
      refine v_iload_n 4 d_En_take_106 rfl rfl rfl ?_
      refine v_icmp_ge (tgt := 114) d_En_take_107 (by decide) rfl (fun c7 => ?_) (fun c7 => ?_)
      · have hwt : ¬ k + 1 - q < T := fun h9 => absurd c7 (by rw [nz6]; exact nI_ge h9 (by omega))
        refine v_iconst (v := 1) d_En_take_114 (by decide) rfl ?_
        refine v_cVw (as := [.long (wC (I0 (5 + i)) (k + 1 - q) q), .int 1]) d_En_take_115 cs_En_35 (c_En_add hC hS (d := d - 1) (n := (scn (I0 (5 + i)) m k).1.length) hi hT.1 (by have h9 := (scn_inv (I0 (5 + i)) m (k + 1) (by omega)).1; rw [scn_s, ← hq, if_pos ⟨h0, hr⟩] at h9; simp only [List.length_append, List.length_singleton] at h9; omega) (wC (I0 (5 + i)) (k + 1 - q) q) 1 (by omega)) (hS.en hi) (by decide) rfl rfl rfl (by decide) (by omega) rfl (fun I8 J9 h10 => ?_)
        refine v_iconst (v := 0) d_En_take_118 (by decide) rfl ?_
        refine v_istore (L' := [(4, .int 0), (8, .int (bI re)), (7, .int (nI k)), (5, .long (wC (I0 (5 + i)) (k + 1 - q) q)), (3, .int (nI T)), (0, .ref (28 + 3 * i)), (1, .ref (5 + i)), (2, .int (nI m))]) d_En_take_119 (by decide) rfl rfl ?_
        refine v_lconst (v := 0) d_En_take_121 rfl rfl ?_
        refine v_lstore (L' := [(5, .long 0), (4, .int 0), (8, .int (bI re)), (7, .int (nI k)), (3, .int (nI T)), (0, .ref (28 + 3 * i)), (1, .ref (5 + i)), (2, .int (nI m))]) d_En_take_122 (by decide) rfl rfl ?_
        obtain ⟨x11, ex11⟩ : ∃ y : Int32, y = (nI k) + 1 := ⟨_, rfl⟩
        have nx11 : x11 = nI (k + 1) := by rw [ex11, show nI k = nI k from rfl]; exact nI_1 _
        refine v_iinc (n := 3) (v := x11) (L' := [(7, .int x11), (5, .long 0), (4, .int 0), (8, .int (bI re)), (3, .int (nI T)), (0, .ref (28 + 3 * i)), (1, .ref (5 + i)), (2, .int (nI m))]) d_En_take_124 rfl (by rw [ex11]; rfl) (by decide) rfl rfl ?_
        refine v_goto (tgt := 20) d_En_take_127 (by decide) ?_
        refine v_sub (L' := [(7, .int x11), (5, .long 0), (4, .int 0), (3, .int (nI T)), (0, .ref (28 + 3 * i)), (1, .ref (5 + i)), (2, .int (nI m))]) [0, 1, 2, 4, 5, 6, 7] rfl ?_
        obtain ⟨e1, e2⟩ := h10
        subst e1
        subst e2
        obtain ⟨g1, g2⟩ := hT.add hi hq h0 hr (x := 1) (by rw [if_neg hwt]) hqk
        have h9 := ih _ _ g1
        rw [g2] at h9
        rw [nx11]
        exact h9
      · have hwt : k + 1 - q < T := by rcases Nat.lt_or_ge (k + 1 - q) T with h9 | h9; exact h9; exact absurd (by rw [nz6]; exact nI_le h9 (by omega)) c7
        refine v_iconst (v := 3) d_En_take_110 (by decide) rfl ?_
        refine v_goto (tgt := 115) d_En_take_111 (by decide) ?_
        refine v_cVw (as := [.long (wC (I0 (5 + i)) (k + 1 - q) q), .int 3]) d_En_take_115 cs_En_35 (c_En_add hC hS (d := d - 1) (n := (scn (I0 (5 + i)) m k).1.length) hi hT.1 (by have h9 := (scn_inv (I0 (5 + i)) m (k + 1) (by omega)).1; rw [scn_s, ← hq, if_pos ⟨h0, hr⟩] at h9; simp only [List.length_append, List.length_singleton] at h9; omega) (wC (I0 (5 + i)) (k + 1 - q) q) 3 (by omega)) (hS.en hi) (by decide) rfl rfl rfl (by decide) (by omega) rfl (fun I12 J13 h14 => ?_)
        refine v_iconst (v := 0) d_En_take_118 (by decide) rfl ?_
        refine v_istore (L' := [(4, .int 0), (8, .int (bI re)), (7, .int (nI k)), (5, .long (wC (I0 (5 + i)) (k + 1 - q) q)), (3, .int (nI T)), (0, .ref (28 + 3 * i)), (1, .ref (5 + i)), (2, .int (nI m))]) d_En_take_119 (by decide) rfl rfl ?_
        refine v_lconst (v := 0) d_En_take_121 rfl rfl ?_
        refine v_lstore (L' := [(5, .long 0), (4, .int 0), (8, .int (bI re)), (7, .int (nI k)), (3, .int (nI T)), (0, .ref (28 + 3 * i)), (1, .ref (5 + i)), (2, .int (nI m))]) d_En_take_122 (by decide) rfl rfl ?_
        obtain ⟨x15, ex15⟩ : ∃ y : Int32, y = (nI k) + 1 := ⟨_, rfl⟩
        have nx15 : x15 = nI (k + 1) := by rw [ex15, show nI k = nI k from rfl]; exact nI_1 _
        refine v_iinc (n := 3) (v := x15) (L' := [(7, .int x15), (5, .long 0), (4, .int 0), (8, .int (bI re)), (3, .int (nI T)), (0, .ref (28 + 3 * i)), (1, .ref (5 + i)), (2, .int (nI m))]) d_En_take_124 rfl (by rw [ex15]; rfl) (by decide) rfl rfl ?_
        refine v_goto (tgt := 20) d_En_take_127 (by decide) ?_
        refine v_sub (L' := [(7, .int x15), (5, .long 0), (4, .int 0), (3, .int (nI T)), (0, .ref (28 + 3 * i)), (1, .ref (5 + i)), (2, .int (nI m))]) [0, 1, 2, 4, 5, 6, 7] rfl ?_
        obtain ⟨e1, e2⟩ := h14
        subst e1
        subst e2
        obtain ⟨g1, g2⟩ := hT.add hi hq h0 hr (x := 3) (by rw [if_pos hwt]) hqk
        have h9 := ih _ _ g1
        rw [g2] at h9
        rw [nx15]
        exact h9
set_option maxHeartbeats 4000000 in
set_option maxRecDepth 100000 in
theorem lp2_En_take {C : CT} {l : Launch} {S : ShT} {d : Nat} (hC : OKC C l) (hS : SHP S) (hd : 2 ≤ d) {I0 : DI} {J0 : DJ} {i m T k : Nat} (hi : i < 16) (hm : m ≤ 60) (hk : k < m) {q : Nat} (hq : q = if isLt (I0 (5 + i) k) then (scn (I0 (5 + i)) m k).2 + 1 else (scn (I0 (5 + i)) m k).2) (ih : ∀ (I : DI) (J : DJ), TkI I0 J0 i m T (k + 1) I J → V C l k_En_take (d, 0, 0) (PW S (TkI I0 J0 i m T m)) 20 [(7, .int (nI (k + 1))), (5, .long (wC (I0 (5 + i)) (k + 1 - (scn (I0 (5 + i)) m (k + 1)).2) (scn (I0 (5 + i)) m (k + 1)).2)), (4, .int (nI (scn (I0 (5 + i)) m (k + 1)).2)), (3, .int (nI T)), (0, .ref (28 + 3 * i)), (1, .ref (5 + i)), (2, .int (nI m))] [] S I J (0, 0)) {I : DI} {J : DJ} (hT : TkI I0 J0 i m T k I J) (hTm : T ≤ m) : V C l k_En_take (d, 0, 0) (PW S (TkI I0 J0 i m T m)) 59 [(7, .int (nI k)), (5, .long (wC (I0 (5 + i)) (k + 1 - q) q)), (4, .int (nI q)), (3, .int (nI T)), (0, .ref (28 + 3 * i)), (1, .ref (5 + i)), (2, .int (nI m))] [] S I J (0, 0) := by
  have hqk : q ≤ k + 1 := by have h9 := (scn_inv (I0 (5 + i)) m k (by omega)).2.1; rcases Nat.eq_zero_or_pos (scn (I0 (5 + i)) m k).2 with h8 | h8; (rw [hq, h8]; split <;> omega); have := (h9 h8).1; rw [hq]; split <;> omega
  have hcI : I (5 + i) = I0 (5 + i) := hT.2.2.1 (5 + i) (by omega) (by omega)
  refine v_iload 0 d_En_take_59 rfl rfl ?_
  refine v_iconst (v := 1) d_En_take_61 (by decide) rfl ?_
  refine v_iadd d_En_take_62 rfl ?_
  refine v_nmi (fun z1 ez1 => ?_)
  have nz1 : z1 = nI (k + 1) := by rw [ez1, show nI k = nI k from rfl, show 1 = nI 1 from rfl]; exact nI_add _ _
  refine v_iload_n 6 d_En_take_63 rfl rfl rfl ?_
  refine v_icmp_eq (tgt := 79) d_En_take_64 (by decide) rfl (fun c2 => ?_) (fun c2 => ?_)
  · have hkm : k + 1 = m := by have h9 := c2; rw [nz1] at h9; exact (nI_eq (by omega) (by omega)).mp h9
    refine v_iconst (v := 1) d_En_take_79 (by decide) rfl ?_
    refine v_goto (tgt := 84) d_En_take_80 (by decide) ?_
    refine v_istore (L' := [(8, .int 1), (7, .int (nI k)), (5, .long (wC (I0 (5 + i)) (k + 1 - q) q)), (4, .int (nI q)), (3, .int (nI T)), (0, .ref (28 + 3 * i)), (1, .ref (5 + i)), (2, .int (nI m))]) d_En_take_84 (by decide) rfl rfl ?_
    refine v_sub (L' := [(8, .int 1), (7, .int (nI k)), (5, .long (wC (I0 (5 + i)) (k + 1 - q) q)), (4, .int (nI q)), (3, .int (nI T)), (0, .ref (28 + 3 * i)), (1, .ref (5 + i)), (2, .int (nI m))]) [0, 1, 2, 3, 4, 5, 6, 7] rfl ?_
    exact lp3_En_take hC hS hd hi hm hk hq ih hT (re := true) hTm (by simp [hkm])
  · have hkm : ¬ k + 1 = m := fun h9 => c2 (by rw [nz1, h9])
    refine v_aload_n 5 d_En_take_67 rfl rfl rfl ?_
    refine v_iload 0 d_En_take_68 rfl rfl ?_
    refine v_iconst (v := 1) d_En_take_70 (by decide) rfl ?_
    refine v_iadd d_En_take_71 rfl ?_
    refine v_nmi (fun z3 ez3 => ?_)
    have nz3 : z3 = nI (k + 1) := by rw [ez3, show nI k = nI k from rfl, show 1 = nI 1 from rfl]; exact nI_add _ _
    refine v_iald (j := (k + 1)) d_En_take_72 (hS.co hi) nz3 (by omega) (by decide) rfl ?_
    refine v_cNp (as := [.int (I (5 + i) (k + 1))]) d_En_take_73 cs_En_27 (c_Fi_isLetter hC (d := d - 1) (I (5 + i) (k + 1)) (by omega)) rfl rfl (by decide) (by omega) rfl ?_
    refine v_if_ne (tgt := 83) d_En_take_76 (by decide) rfl (fun c4 => ?_) (fun c4 => ?_)
    · have hnl : isLt (I0 (5 + i) (k + 1)) = true := by have h9 := c4; rw [hcI] at h9; cases h8 : isLt (I0 (5 + i) (k + 1)); rw [h8] at h9; exact absurd rfl h9; rfl
      refine v_iconst (v := 0) d_En_take_83 (by decide) rfl ?_
      refine v_istore (L' := [(8, .int 0), (7, .int (nI k)), (5, .long (wC (I0 (5 + i)) (k + 1 - q) q)), (4, .int (nI q)), (3, .int (nI T)), (0, .ref (28 + 3 * i)), (1, .ref (5 + i)), (2, .int (nI m))]) d_En_take_84 (by decide) rfl rfl ?_
      refine v_sub (L' := [(8, .int 0), (7, .int (nI k)), (5, .long (wC (I0 (5 + i)) (k + 1 - q) q)), (4, .int (nI q)), (3, .int (nI T)), (0, .ref (28 + 3 * i)), (1, .ref (5 + i)), (2, .int (nI m))]) [0, 1, 2, 3, 4, 5, 6, 7] rfl ?_
      exact lp3_En_take hC hS hd hi hm hk hq ih hT (re := false) hTm (by simp [hkm, hnl])
    · have hnl : isLt (I0 (5 + i) (k + 1)) = false := by have h9 := c4; rw [hcI] at h9; cases h8 : isLt (I0 (5 + i) (k + 1)); rfl; rw [h8] at h9; exact absurd h9 (by decide)
      refine v_iconst (v := 1) d_En_take_79 (by decide) rfl ?_
      refine v_goto (tgt := 84) d_En_take_80 (by decide) ?_
      refine v_istore (L' := [(8, .int 1), (7, .int (nI k)), (5, .long (wC (I0 (5 + i)) (k + 1 - q) q)), (4, .int (nI q)), (3, .int (nI T)), (0, .ref (28 + 3 * i)), (1, .ref (5 + i)), (2, .int (nI m))]) d_En_take_84 (by decide) rfl rfl ?_
      refine v_sub (L' := [(8, .int 1), (7, .int (nI k)), (5, .long (wC (I0 (5 + i)) (k + 1 - q) q)), (4, .int (nI q)), (3, .int (nI T)), (0, .ref (28 + 3 * i)), (1, .ref (5 + i)), (2, .int (nI m))]) [0, 1, 2, 3, 4, 5, 6, 7] rfl ?_
      exact lp3_En_take hC hS hd hi hm hk hq ih hT (re := true) hTm (by simp [hkm, hnl])

set_option maxHeartbeats 4000000 in
set_option maxRecDepth 100000 in
theorem lp1_En_take {C : CT} {l : Launch} {S : ShT} {d : Nat} (hC : OKC C l) (hS : SHP S) (hd : 2 ≤ d) {I0 : DI} {J0 : DJ} {i m T k : Nat} (hi : i < 16) (hm : m ≤ 60) (hk : k < m) (ih : ∀ (I : DI) (J : DJ), TkI I0 J0 i m T (k + 1) I J → V C l k_En_take (d, 0, 0) (PW S (TkI I0 J0 i m T m)) 20 [(7, .int (nI (k + 1))), (5, .long (wC (I0 (5 + i)) (k + 1 - (scn (I0 (5 + i)) m (k + 1)).2) (scn (I0 (5 + i)) m (k + 1)).2)), (4, .int (nI (scn (I0 (5 + i)) m (k + 1)).2)), (3, .int (nI T)), (0, .ref (28 + 3 * i)), (1, .ref (5 + i)), (2, .int (nI m))] [] S I J (0, 0)) {I : DI} {J : DJ} (hT : TkI I0 J0 i m T k I J) (hTm : T ≤ m) : V C l k_En_take (d, 0, 0) (PW S (TkI I0 J0 i m T m)) 20 [(7, .int (nI k)), (5, .long (wC (I0 (5 + i)) (k - (scn (I0 (5 + i)) m k).2) (scn (I0 (5 + i)) m k).2)), (4, .int (nI (scn (I0 (5 + i)) m k).2)), (3, .int (nI T)), (0, .ref (28 + 3 * i)), (1, .ref (5 + i)), (2, .int (nI m))] [] S I J (0, 0) := by
  have hcI : I (5 + i) = I0 (5 + i) := hT.2.2.1 (5 + i) (by omega) (by omega)
  refine v_iload 0 d_En_take_20 rfl rfl ?_
  refine v_iload_n 6 d_En_take_22 rfl rfl rfl ?_
  refine v_icmp_ge (tgt := 130) d_En_take_23 (by decide) rfl (fun c1 => ?_) (fun c1 => ?_)
  · exact absurd c1 (nI_ge hk (by omega))
  · refine v_aload_n 5 d_En_take_26 rfl rfl rfl ?_
    refine v_iload 0 d_En_take_27 rfl rfl ?_
    refine v_iald (j := k) d_En_take_29 (hS.co hi) rfl (by omega) (by decide) rfl ?_
    refine v_cNp (as := [.int (I (5 + i) k)]) d_En_take_30 cs_En_27 (c_Fi_isLetter hC (d := d - 1) (I (5 + i) k) (by omega)) rfl rfl (by decide) (by omega) rfl ?_
    refine v_if_eq (tgt := 59) d_En_take_33 (by decide) rfl (fun c2 => ?_) (fun c2 => ?_)
    · have hL : isLt (I0 (5 + i) k) = false := by have h9 := c2; rw [hcI] at h9; cases h8 : isLt (I0 (5 + i) k); rfl; rw [h8] at h9; exact absurd h9 (by decide)
      refine v_sub (L' := [(7, .int (nI k)), (5, .long (wC (I0 (5 + i)) (k - (scn (I0 (5 + i)) m k).2) (scn (I0 (5 + i)) m k).2)), (4, .int (nI (scn (I0 (5 + i)) m k).2)), (3, .int (nI T)), (0, .ref (28 + 3 * i)), (1, .ref (5 + i)), (2, .int (nI m))]) [0, 1, 2, 3, 4, 5, 6] rfl ?_
      have h0 : (scn (I0 (5 + i)) m k).2 = 0 := by rcases Nat.eq_zero_or_pos (scn (I0 (5 + i)) m k).2 with h9 | h9; exact h9; have h7 := ((scn_inv (I0 (5 + i)) m k (by omega)).2.1 h9).2 hk; rw [hL] at h7; cases h7
      have h9 := lp2_En_take hC hS hd hi hm hk (q := 0) (by rw [hL, h0]; rfl) ih hT hTm
      rw [h0]
      exact h9
    · have hL : isLt (I0 (5 + i) k) = true := by have h9 := c2; rw [hcI] at h9; cases h8 : isLt (I0 (5 + i) k); rw [h8] at h9; exact absurd rfl h9; rfl
      have hsk : (scn (I0 (5 + i)) m k).2 ≤ k := by rcases Nat.eq_zero_or_pos (scn (I0 (5 + i)) m k).2 with h9 | h9; omega; have := ((scn_inv (I0 (5 + i)) m k (by omega)).2.1 h9).1; omega
      refine v_iload 2 d_En_take_36 rfl rfl ?_
      refine v_bipush (v := 8) d_En_take_38 (by decide) rfl ?_
      refine v_icmp_ge (tgt := 56) d_En_take_40 (by decide) rfl (fun c3 => ?_) (fun c3 => ?_)
      · have h8 : ¬ (scn (I0 (5 + i)) m k).2 < 8 := fun h9 => absurd c3 (nI_ge (b := 8) h9 (by decide))
        obtain ⟨x4, ex4⟩ : ∃ y : Int32, y = (nI (scn (I0 (5 + i)) m k).2) + 1 := ⟨_, rfl⟩
        have nx4 : x4 = nI ((scn (I0 (5 + i)) m k).2 + 1) := by rw [ex4, show nI (scn (I0 (5 + i)) m k).2 = nI (scn (I0 (5 + i)) m k).2 from rfl]; exact nI_1 _
        refine v_iinc (n := 2) (v := x4) (L' := [(4, .int x4), (7, .int (nI k)), (5, .long (wC (I0 (5 + i)) (k - (scn (I0 (5 + i)) m k).2) (scn (I0 (5 + i)) m k).2)), (3, .int (nI T)), (0, .ref (28 + 3 * i)), (1, .ref (5 + i)), (2, .int (nI m))]) d_En_take_56 rfl (by rw [ex4]; rfl) (by decide) rfl rfl ?_
        refine v_sub (L' := [(7, .int (nI k)), (5, .long (wC (I0 (5 + i)) (k - (scn (I0 (5 + i)) m k).2) (scn (I0 (5 + i)) m k).2)), (4, .int x4), (3, .int (nI T)), (0, .ref (28 + 3 * i)), (1, .ref (5 + i)), (2, .int (nI m))]) [1, 2, 0, 3, 4, 5, 6] rfl ?_
        have h9 := lp2_En_take hC hS hd hi hm hk (q := (scn (I0 (5 + i)) m k).2 + 1) (by rw [hL]; rfl) ih hT hTm
        rw [show k + 1 - ((scn (I0 (5 + i)) m k).2 + 1) = k - (scn (I0 (5 + i)) m k).2 by omega, wC_s] at h9
        rw [nx4]
        rw [if_neg h8] at h9
        exact h9
      · have h8 : (scn (I0 (5 + i)) m k).2 < 8 := by rcases Nat.lt_or_ge (scn (I0 (5 + i)) m k).2 8 with h9 | h9; exact h9; exact absurd (nI_le (a := 8) h9 (by omega)) c3
        refine v_lload 1 d_En_take_43 rfl rfl ?_
        refine v_iload 2 d_En_take_45 rfl rfl ?_
        refine v_aload_n 5 d_En_take_47 rfl rfl rfl ?_
        refine v_iload 0 d_En_take_48 rfl rfl ?_
        refine v_iald (j := k) d_En_take_50 (hS.co hi) rfl (by omega) (by decide) rfl ?_
        refine v_cNp (as := [.long (wC (I0 (5 + i)) (k - (scn (I0 (5 + i)) m k).2) (scn (I0 (5 + i)) m k).2), .int (nI (scn (I0 (5 + i)) m k).2), .int (I (5 + i) k)]) d_En_take_51 cs_En_31 (c_Fi_withLetter hC (d := d - 1) (wC (I0 (5 + i)) (k - (scn (I0 (5 + i)) m k).2) (scn (I0 (5 + i)) m k).2) (nI (scn (I0 (5 + i)) m k).2) (I (5 + i) k) (by omega)) rfl rfl (by decide) (by omega) rfl ?_
        refine v_lstore (L' := [(5, .long (wiLe (wC (I0 (5 + i)) (k - (scn (I0 (5 + i)) m k).2) (scn (I0 (5 + i)) m k).2) (nI (scn (I0 (5 + i)) m k).2) (I (5 + i) k))), (7, .int (nI k)), (4, .int (nI (scn (I0 (5 + i)) m k).2)), (3, .int (nI T)), (0, .ref (28 + 3 * i)), (1, .ref (5 + i)), (2, .int (nI m))]) d_En_take_54 (by decide) rfl rfl ?_
        obtain ⟨x5, ex5⟩ : ∃ y : Int32, y = (nI (scn (I0 (5 + i)) m k).2) + 1 := ⟨_, rfl⟩
        have nx5 : x5 = nI ((scn (I0 (5 + i)) m k).2 + 1) := by rw [ex5, show nI (scn (I0 (5 + i)) m k).2 = nI (scn (I0 (5 + i)) m k).2 from rfl]; exact nI_1 _
        refine v_iinc (n := 2) (v := x5) (L' := [(4, .int x5), (5, .long (wiLe (wC (I0 (5 + i)) (k - (scn (I0 (5 + i)) m k).2) (scn (I0 (5 + i)) m k).2) (nI (scn (I0 (5 + i)) m k).2) (I (5 + i) k))), (7, .int (nI k)), (3, .int (nI T)), (0, .ref (28 + 3 * i)), (1, .ref (5 + i)), (2, .int (nI m))]) d_En_take_56 rfl (by rw [ex5]; rfl) (by decide) rfl rfl ?_
        refine v_sub (L' := [(7, .int (nI k)), (5, .long (wiLe (wC (I0 (5 + i)) (k - (scn (I0 (5 + i)) m k).2) (scn (I0 (5 + i)) m k).2) (nI (scn (I0 (5 + i)) m k).2) (I (5 + i) k))), (4, .int x5), (3, .int (nI T)), (0, .ref (28 + 3 * i)), (1, .ref (5 + i)), (2, .int (nI m))]) [2, 1, 0, 3, 4, 5, 6] rfl ?_
        have h9 := lp2_En_take hC hS hd hi hm hk (q := (scn (I0 (5 + i)) m k).2 + 1) (by rw [hL]; rfl) ih hT hTm
        rw [show k + 1 - ((scn (I0 (5 + i)) m k).2 + 1) = k - (scn (I0 (5 + i)) m k).2 by omega, wC_s] at h9
        rw [nx5]
        rw [if_pos h8, show k - (scn (I0 (5 + i)) m k).2 + (scn (I0 (5 + i)) m k).2 = k by omega] at h9
        rw [hcI]
        exact h9
set_option maxHeartbeats 4000000 in
set_option maxRecDepth 100000 in
theorem lp_En_take {C : CT} {l : Launch} {S : ShT} {d : Nat} (hC : OKC C l) (hS : SHP S) (hd : 2 ≤ d) {I0 : DI} {J0 : DJ} {i m T : Nat} (hi : i < 16) (hm : m ≤ 60) (hTm : T ≤ m) : ∀ (n k : Nat) (I : DI) (J : DJ), k ≤ m → m < k + n → TkI I0 J0 i m T k I J → V C l k_En_take (d, 0, 0) (PW S (TkI I0 J0 i m T m)) 20 [(7, .int (nI k)), (5, .long (wC (I0 (5 + i)) (k - (scn (I0 (5 + i)) m k).2) (scn (I0 (5 + i)) m k).2)), (4, .int (nI (scn (I0 (5 + i)) m k).2)), (3, .int (nI T)), (0, .ref (28 + 3 * i)), (1, .ref (5 + i)), (2, .int (nI m))] [] S I J (0, 0) := by
  intro n
  induction n with
  | zero =>
    intro k I J h1 h2
    omega
  | succ n ih =>
    intro k I J h1 h2 hT
    by_cases hk : k < m
    · exact lp1_En_take hC hS hd hi hm hk (fun I J h => ih (k + 1) I J (by omega) (by omega) h) hT hTm
    · have hkm : k = m := by omega
      subst hkm
      refine v_iload 0 d_En_take_20 rfl rfl ?_
      refine v_iload_n 6 d_En_take_22 rfl rfl rfl ?_
      refine v_icmp_ge (tgt := 130) d_En_take_23 (by decide) rfl (fun c1 => ?_) (fun c1 => ?_)
      · refine v_vret d_En_take_130 rfl ?_
        exact ⟨rfl, rfl, hT⟩
      · exact absurd (Int32.le_refl _) c1
set_option maxHeartbeats 4000000 in
set_option maxRecDepth 100000 in
theorem c_En_take {C : CT} {l : Launch} {S : ShT} {I : DI} {J : DJ} {d : Nat} (hC : OKC C l) (hS : SHP S) {i m : Nat} (hi : i < 16) (hm : m ≤ 60) (hd : 2 ≤ d) : Sp C l k_En_take y_En_take (d, 0, 0) [.ref (28 + 3 * i), .ref (5 + i), .int (nI m)] S I J (PW S (TkI I J i m (tiE (I (5 + i)) m) m)) := by
  refine Sp.of hC cd_En_take (Nat.le_of_ble_eq_true rfl) ?_
  show V C l k_En_take (d, 0, 0) _ 0 [(0, .ref (28 + 3 * i)), (1, .ref (5 + i)), (2, .int (nI m))] [] S I J (0, 0)
  refine v_aload_n 0 d_En_take_0 rfl rfl rfl ?_
  refine v_iconst (v := 0) d_En_take_1 (by decide) rfl ?_
  refine v_puti d_En_take_2 fl_En_19 (hS.en hi) rfl rfl rfl ?_
  generalize hI1 : u2 I (28 + 3 * i) 2 0 = I1
  refine v_aload_n 1 d_En_take_5 rfl rfl rfl ?_
  refine v_iload_n 2 d_En_take_6 rfl rfl rfl ?_
  refine v_cSp (as := [.ref (5 + i), .int (nI m)]) d_En_take_7 cs_En_23 (by have h9 := c_En_titleEndOf (C := C) (l := l) (S := S) (I := I1) (J := J) hC hS (d := d - 1) hi hm (by omega); exact h9) rfl rfl (by decide) (by omega) rfl ?_
  refine v_istore_n (L' := [(3, .int (nI (tiE (I1 (5 + i)) m))), (0, .ref (28 + 3 * i)), (1, .ref (5 + i)), (2, .int (nI m))]) d_En_take_10 rfl (by decide) rfl rfl ?_
  refine v_iconst (v := 0) d_En_take_11 (by decide) rfl ?_
  refine v_istore (L' := [(4, .int 0), (3, .int (nI (tiE (I1 (5 + i)) m))), (0, .ref (28 + 3 * i)), (1, .ref (5 + i)), (2, .int (nI m))]) d_En_take_12 (by decide) rfl rfl ?_
  refine v_lconst (v := 0) d_En_take_14 rfl rfl ?_
  refine v_lstore (L' := [(5, .long 0), (4, .int 0), (3, .int (nI (tiE (I1 (5 + i)) m))), (0, .ref (28 + 3 * i)), (1, .ref (5 + i)), (2, .int (nI m))]) d_En_take_15 (by decide) rfl rfl ?_
  refine v_iconst (v := 0) d_En_take_17 (by decide) rfl ?_
  refine v_istore (L' := [(7, .int 0), (5, .long 0), (4, .int 0), (3, .int (nI (tiE (I1 (5 + i)) m))), (0, .ref (28 + 3 * i)), (1, .ref (5 + i)), (2, .int (nI m))]) d_En_take_18 (by decide) rfl rfl ?_
  rw [show tiE (I1 (5 + i)) m = tiE (I (5 + i)) m by rw [← hI1, u2_o (by omega)]]
  exact lp_En_take hC hS hd hi hm (tiE_le _ _) (m + 1) 0 I1 J (by omega) (by omega) ⟨by rw [← hI1, u2_s]; rfl, fun j s e hj => by simp [scn] at hj, fun b b1 b2 => by rw [← hI1, u2_o b1], fun b _ => rfl⟩
