/-! .. the calls that change the state, and those that pair -/
section RFT
variable {G : z_G} {F : Nat → Prop} {A6 : z_TA} {M : z_TM} {w : z_W} {I I' : z_TI} {N N' : z_TN} {O O' : z_TO} {B B' : z_TB} {k r : Int32}
theorem z_J.tp (h : z_J I N (z_pt I N O) B M) (hS : z_S N O B) : z_J I N O B M := by
  have e0 : O 0 0 = z_pt I N O 0 0 := by rw [z_pt_0]
  have ee : z_ed N O = z_ed N (z_pt I N O) := z_ed_c rfl e0
  exact ⟨hS, h.2.1, h.2.2.1, h.2.2.2.1.oc e0, h.2.2.2.2.1, h.2.2.2.2.2.1.c (fun _ _ _ => rfl) (by rw [ee]; exact Nat.le_refl _) (fun _ _ _ => rfl), h.2.2.2.2.2.2.1, h.2.2.2.2.2.2.2.c rfl rfl rfl rfl ee⟩
theorem z_J.m6 (h : z_J I N O B M) : M 6 0 = 0 ↔ O 0 0 = none := by
  rw [h.2.2.2.1.2.1]
  cases O 0 0 with
  | none => exact ⟨fun _ => rfl, fun _ => rfl⟩
  | some g => exact ⟨fun z => absurd z (show ¬ (1 : Int32) = 0 by decide), fun z => by cases z⟩
theorem rL_enter (hM : z_Mo G F A6 M w) (hJ : z_J I N O B M) (hq : z_Qenter I N O B k r I' N' O' B') : z_M G zX6_enter 1 [.ref (A6 22 0 0)] w 0 0 (z_kr G F A6 w k r I' N' O' B') z_nx := by
  refine z_M.mono (mX6_enter hM hJ.2.2.1.1 hJ.1.2.2.2.1) (fun v w' h => ?_) (fun _ _ h => h)
  obtain ⟨hf, ⟨h8, rfl, hM'⟩ | ⟨h8, rfl, hM'⟩⟩ := h
  · rcases hq with ⟨_, rfl, rfl, rfl, rfl, rfl, rfl⟩ | ⟨_, ⟨hP, _⟩ | ⟨_, hP, _⟩ | ⟨_, _, hP, _⟩⟩
    · exact ⟨_, _, rfl, hJ.enter h8, by rw [z_sM_f _ _ _ (by decide), z_mr_f (by decide), z_sM_s, z_upd_s], fun _ => rfl, hM', hf⟩
    · exact absurd h8 hP
    · exact absurd trivial hP
    · exact absurd trivial hP
  · rcases hq with ⟨q, _⟩ | ⟨⟨rfl, rfl, rfl, rfl⟩, ⟨hP, rfl⟩ | ⟨_, hP, _⟩ | ⟨_, _, hP, _⟩⟩
    · exact absurd q h8
    · exact ⟨_, _, rfl, hJ.set21 _, by rw [z_sM_s, z_upd_s], fun z => absurd z (by decide), hM', hf⟩
    · exact absurd trivial hP
    · exact absurd trivial hP
theorem rL_begin (hM : z_Mo G F A6 M w) (hJ : z_J I N O B M) (x y : Int32) (hq : z_Qbegin x y I N O B k r I' N' O' B') : z_M G zX6_begin 2 [.ref (A6 22 0 0), .int x, .int y] w 0 0 (z_kr G F A6 w k r I' N' O' B') z_nx := by
  have hS := hJ.1
  have m6 := hJ.m6
  refine z_M.mono (mX6_begin hM hJ.n6.1 hJ.n6.2.1 hJ.2.2.2.1.1 hS.2.2.2.2.1 x y) (fun v w' h => ?_) (fun _ _ h => h)
  obtain ⟨hf, ⟨h8, rfl, hM'⟩ | ⟨h8, rfl, hM'⟩⟩ := h
  · rcases hq with ⟨p1, p2, hp1, hp2, rfl, rfl, hne, ho, h60, rfl, rfl, rfl, rfl, rfl, rfl⟩ | ⟨_, ⟨hP, _⟩ | ⟨_, hP, _⟩ | ⟨_, _, hP, _⟩⟩
    · exact ⟨_, _, rfl, hJ.begin ho h60 (by rw [← hS.1]; exact hp1) (by rw [← hS.1]; exact hp2) (fun e => hne (by rw [e])), by unfold z_mb; rw [z_sM_f _ _ _ (by decide), z_sM_f _ _ _ (by decide), z_sM_f _ _ _ (by decide), z_sM_f _ _ _ (by decide), z_sM_f _ _ _ (by decide), z_sM_s, z_upd_s], fun _ => rfl, hM', hf⟩
    · exact absurd h8.1 hP
    · exact absurd h8.2.1 hP
    · exact absurd ⟨m6.1 h8.2.2.1, h8.2.2.2⟩ hP
  · rcases hq with ⟨p1, p2, hp1, hp2, rfl, rfl, hne, ho, h60, _⟩ | ⟨⟨rfl, rfl, rfl, rfl⟩, ⟨hP, rfl⟩ | ⟨hP, hP2, rfl⟩ | ⟨hP, hP2, hP3, rfl⟩⟩
    · exact absurd ⟨⟨⟨p1, hp1, rfl⟩, ⟨p2, hp2, rfl⟩⟩, hne, m6.2 ho, h60⟩ h8
    · exact ⟨_, _, rfl, hJ.set21 _, by rw [z_sM_s, z_upd_s, z_go_1 hP], fun z => absurd z (by decide), hM', hf⟩
    · exact ⟨_, _, rfl, hJ.set21 _, by rw [z_sM_s, z_upd_s, z_go_2 hP hP2], fun z => absurd z (by decide), hM', hf⟩
    · exact ⟨_, _, rfl, hJ.set21 _, by rw [z_sM_s, z_upd_s, z_go_3 hP hP2 (fun z => hP3 ⟨m6.1 z.1, z.2⟩)], fun z => absurd z (by decide), hM', hf⟩
theorem rL_move (hM : z_Mo G F A6 M w) (hJ : z_J I N O B M) (x : Int32) (hq : z_Qz (z_Qmove x I N O B) k r I' N' O' B') : z_M G zX6_move 4 [.ref (A6 22 0 0), .int x] w 0 0 (z_kr G F A6 w k r I' N' O' B') z_nx := by
  have hS := hJ.1
  have hG := hJ.2.2.2.1
  have m6 := hJ.m6
  have h60 := hS.2.2.2.2.1
  cases ho : O 0 0 with
  | none =>
    refine z_M.mono (mX6_move hM (g := 0) (c := 0) (by decide) (by decide) (fun z => absurd (m6.2 ho) z) x) (fun v w' h => ?_) (fun _ _ h => h)
    obtain ⟨hf, ⟨h8, rfl, hM'⟩ | ⟨h8, rfl, hM'⟩⟩ := h
    · exact absurd (m6.2 ho) h8.2.1
    · rcases hq.1 with ⟨g, hg, _⟩ | ⟨⟨rfl, rfl, rfl, rfl⟩, ⟨hP, rfl⟩ | ⟨hP, hP2, rfl⟩ | ⟨hP, hP2, hP3, rfl⟩⟩
      · rw [ho] at hg; cases hg
      · exact ⟨_, _, rfl, hJ.set21 _, by rw [z_sM_s, z_upd_s, z_go_1 hP], fun z => absurd z (by decide), hM', hf⟩
      · exact ⟨_, _, rfl, hJ.set21 _, by rw [z_sM_s, z_upd_s, z_go_2 hP (fun z => z.1 (m6.2 ho))], fun z => absurd z (by decide), hM', hf⟩
      · exact absurd trivial hP3
  | some g =>
    have hg1 := hS.2.2.2.2.2.2.2.1 g ho
    have hgn := hG.2.2.2.1 g (by omega)
    have hg12 := (hS.2.2.2.2.2.2.1 g (by omega)).2.2
    have h7 := hG.2.2.1 g ho
    have n6 : M 6 0 ≠ 0 := fun z => by rw [m6.1 z] at ho; cases ho
    refine z_M.mono (mX6_move hM (g := g) (c := N 5 g) (by omega) hg12 (fun _ => ⟨by rw [hG.1, hg1], hgn.2.2.2.1⟩) x) (fun v w' h => ?_) (fun _ _ h => h)
    obtain ⟨hf, ⟨h8, rfl, hM'⟩ | ⟨h8, rfl, hM'⟩⟩ := h
    · rcases hq.1 with ⟨g', hg', h12, hx, rfl, er, rfl, rfl, rfl, rfl⟩ | ⟨_, ⟨hP, _⟩ | ⟨_, hP, _⟩ | ⟨_, _, hP, _⟩⟩
      · rw [ho] at hg'
        cases hg'
        refine ⟨_, _, rfl, hJ.move ho h12 hx, by unfold z_mv1; rw [z_sM_f _ _ _ (by decide), z_sM_f _ _ _ (by decide), z_sM_f _ _ _ (by decide), z_sM_s, z_upd_s], fun _ => ?_, hM', hf⟩
        rw [er, h7.1]
        exact (z_bl h7.2 hx).symm
      · exact absurd h8.1 hP
      · exact absurd ⟨g, ho, h8.2.2⟩ hP
      · exact absurd trivial hP
    · rcases hq.1 with ⟨g', hg', h12, hx, _⟩ | ⟨⟨rfl, rfl, rfl, rfl⟩, ⟨hP, rfl⟩ | ⟨hP, hP2, rfl⟩ | ⟨hP, hP2, hP3, rfl⟩⟩
      · rw [ho] at hg'
        cases hg'
        exact absurd ⟨hx, n6, h12⟩ h8
      · exact ⟨_, _, rfl, hJ.set21 _, by rw [z_sM_s, z_upd_s, z_go_1 hP], fun z => absurd z (by decide), hM', hf⟩
      · exact ⟨_, _, rfl, hJ.set21 _, by rw [z_sM_s, z_upd_s, z_go_2 hP (fun z => hP2 ⟨g, ho, z.2⟩)], fun z => absurd z (by decide), hM', hf⟩
      · exact absurd trivial hP3
theorem rL_end (hM : z_Mo G F A6 M w) (hJ : z_J I N O B M) (x : Int32) (hq : z_Qend x I N O B k r I' N' O' B') : z_M G zX6_end 5 [.ref (A6 22 0 0), .int x] w 0 0 (z_kr G F A6 w k r I' N' O' B') z_nx := by
  refine z_M.mono (mX6_end hM hJ x) (fun v w' h => ?_) (fun _ _ h => h)
  obtain ⟨hf, ⟨g, ho, hx, rfl, M', hM', h21, hJ'⟩ | ⟨h8, rfl, hM'⟩⟩ := h
  · rcases hq with ⟨g', hg', _, rfl, er, rfl, rfl, rfl, rfl⟩ | ⟨_, ⟨hP, _⟩ | ⟨_, hP, _⟩ | ⟨_, _, hP, _⟩⟩
    · rw [ho] at hg'
      cases hg'
      exact ⟨_, _, rfl, hJ', h21, fun _ => er.symm, hM', hf⟩
    · exact absurd hx hP
    · exact absurd ⟨g, ho⟩ hP
    · exact absurd trivial hP
  · rcases hq with ⟨g', hg', hx, _⟩ | ⟨⟨rfl, rfl, rfl, rfl⟩, ⟨hP, rfl⟩ | ⟨hP, hP2, rfl⟩ | ⟨hP, hP2, hP3, rfl⟩⟩
    · exact absurd ⟨hx, fun z => by rw [z] at hg'; cases hg'⟩ h8
    · exact ⟨_, _, rfl, hJ.set21 _, by rw [z_sM_s, z_upd_s, z_go_1 hP], fun z => absurd z (by decide), hM', hf⟩
    · refine ⟨_, _, rfl, hJ.set21 _, ?_, fun z => absurd z (by decide), hM', hf⟩
      rw [z_sM_s, z_upd_s, z_go_2 hP (fun z => h8 ⟨hP, z⟩)]
    · exact absurd trivial hP3
theorem rL_solve (hM : z_Mo G F A6 M w) (hJ : z_J I N O B M) (x y m : Int32) (hq : z_Qz (z_Qsolve x y m I N O B) k r I' N' O' B') : z_M G zX6_solve 3 [.ref (A6 22 0 0), .int x, .int y, .int m] w 0 0 (z_kr G F A6 w k r I' N' O' B') z_nx := by
  have n6 := hJ.n6
  have hS := hJ.1
  refine z_M.mono (mX6_solve hM hJ x y m) (fun v w' h => ?_) (fun _ _ h => h)
  obtain ⟨hf, ⟨p, z, hp, hz, rfl, rfl, hm, h4, rfl, hM'⟩ | ⟨h8, rfl, hM'⟩⟩ := h
  · rcases hq.1 with ⟨p', z', hp', hz', e1, e2, _, _, rfl, er, rfl, rfl, rfl, rfl⟩ | ⟨_, ⟨hP, _⟩ | ⟨_, hP, _⟩ | ⟨_, _, hP, _⟩⟩
    · have e1 := nI_inj (by omega) (by omega) e1
      have e2 := nI_inj (by omega) (by omega) e2
      subst e1 e2
      have ht : z_th I z < 5 := Nat.mod_lt _ (by decide)
      have hr := ((hJ.2.2.1.2.1 p (by rw [← hS.1]; exact hp)).2.2.1 _ ht).2
      refine ⟨_, _, rfl, hJ.solve (by rw [← hS.1]; exact hp) (by omega) ht (z_rb hr (z_10 (m = bst (I 9 z 0)))).2, by unfold z_ms; rw [z_sM_f _ _ _ (by decide), z_sM_f _ _ _ (by decide), z_sM_s, z_upd_s], fun _ => er.symm, hM', hf⟩
    · exact absurd ⟨⟨p, hp, rfl⟩, ⟨z, hz, rfl⟩⟩ hP
    · exact absurd hm hP
    · refine absurd (fun p' z' e1 e2 a b => ?_) hP
      have e1 := nI_inj (by omega) (by omega) e1
      have e2 := nI_inj (by omega) (by omega) e2
      subst e1 e2
      exact h4
  · rcases hq.1 with ⟨p, z, hp, hz, rfl, rfl, hm, h4, _⟩ | ⟨⟨rfl, rfl, rfl, rfl⟩, ⟨hP, rfl⟩ | ⟨hP, hP2, rfl⟩ | ⟨hP, hP2, hP3, rfl⟩⟩
    · rcases h8 with q | q | q
      · exact absurd ⟨⟨p, hp, rfl⟩, ⟨z, hz, rfl⟩⟩ q
      · exact absurd hm q
      · refine absurd (fun p' z' e1 e2 a b => ?_) q
        have e1 := nI_inj (by omega) (by omega) e1
        have e2 := nI_inj (by omega) (by omega) e2
        subst e1 e2
        exact h4
    · exact ⟨_, _, rfl, hJ.set21 _, by rw [z_sM_s, z_upd_s, z_go_1 hP], fun z => absurd z (by decide), hM', hf⟩
    · exact ⟨_, _, rfl, hJ.set21 _, by rw [z_sM_s, z_upd_s, z_go_2 hP hP2], fun z => absurd z (by decide), hM', hf⟩
    · exact ⟨_, _, rfl, hJ.set21 _, by rw [z_sM_s, z_upd_s, z_go_3 hP hP2 hP3], fun z => absurd z (by decide), hM', hf⟩
theorem rL_opponent (hM : z_Mo G F A6 M w) (hJ : z_J I N O B M) (x : Int32) (hq : z_Qopponent x I N O B k r I' N' O' B') : z_M G zX6_opponent 3 [.ref (A6 22 0 0), .int x] w 0 0 (z_kr G F A6 w k r I' N' O' B') z_nx := by
  have n6 := hJ.n6
  refine z_M.mono (mX6_opponent hM hJ x) (fun v w' h => ?_) (fun _ _ h => h)
  obtain ⟨hf, ⟨p, hp, rfl, rfl, M', hM', h21, hJ'⟩ | ⟨h8, rfl, hM'⟩⟩ := h
  · rcases hq with ⟨p', hp', e1, rfl, rfl, rfl, rfl, rfl, rfl⟩ | ⟨_, ⟨hP, _⟩ | ⟨_, hP, _⟩ | ⟨_, _, hP, _⟩⟩
    · have e1 := nI_inj (by omega) (by omega) e1
      subst e1
      exact ⟨_, _, rfl, hJ', h21, fun _ => rfl, hM', hf⟩
    · exact absurd ⟨p, hp, rfl⟩ hP
    · exact absurd trivial hP
    · exact absurd trivial hP
  · rcases hq with ⟨p', hp', e1, _⟩ | ⟨⟨rfl, rfl, rfl, rfl⟩, ⟨hP, rfl⟩ | ⟨_, hP, _⟩ | ⟨_, _, hP, _⟩⟩
    · exact absurd ⟨p', hp', e1⟩ h8
    · exact ⟨_, _, rfl, hJ.set21 _, by rw [z_sM_s, z_upd_s], fun z => absurd z (by decide), hM', hf⟩
    · exact absurd trivial hP
    · exact absurd trivial hP
theorem rL_hasWhite (hM : z_Mo G F A6 M w) (hJ : z_J I N O B M) (x : Int32) (hq : z_Qz (z_QhasWhite x I N O B) k r I' N' O' B') : z_M G zX6_hasWhite 3 [.ref (A6 22 0 0), .int x] w 0 0 (z_kr G F A6 w k r I' N' O' B') z_nx := by
  have n6 := hJ.n6
  have hS := hJ.1
  refine z_M.mono (mX6_hasWhite hM hJ x) (fun v w' h => ?_) (fun _ _ h => h)
  obtain ⟨hf, M', hM', hJ', ⟨p, q, hp, rfl, hpq, rfl, h21⟩ | ⟨p, hp, rfl, hpn, rfl, h21⟩ | ⟨h8, rfl, h21⟩⟩ := h
  · rcases hq.1 with ⟨p', q', hp', e1, hpq', rfl, rfl, rfl, rfl, rfl, rfl⟩ | ⟨p', hp', e1, hpn', _⟩ | ⟨_, ⟨hP, _⟩ | ⟨_, hP, _⟩ | ⟨_, _, hP, _⟩⟩
    · have e1 := nI_inj (by omega) (by omega) e1
      subst e1
      rw [hpq] at hpq'
      cases hpq'
      exact ⟨_, _, rfl, hJ', h21, fun _ => rfl, hM', hf⟩
    · have e1 := nI_inj (by omega) (by omega) e1
      subst e1
      rw [hpq] at hpn'
      cases hpn'
    · exact absurd ⟨p, hp, rfl⟩ hP
    · exact absurd trivial hP
    · exact absurd trivial hP
  · rcases hq.1 with ⟨p', q', hp', e1, hpq', _⟩ | ⟨p', hp', e1, hpn', rfl, rfl, rfl, rfl, rfl⟩ | ⟨_, ⟨hP, _⟩ | ⟨_, hP, _⟩ | ⟨_, _, hP, _⟩⟩
    · have e1 := nI_inj (by omega) (by omega) e1
      subst e1
      rw [hpn] at hpq'
      cases hpq'
    · exact ⟨_, _, rfl, hJ', h21, fun z => absurd z (by decide), hM', hf⟩
    · exact absurd ⟨p, hp, rfl⟩ hP
    · exact absurd trivial hP
    · exact absurd trivial hP
  · rcases hq.1 with ⟨p', q', hp', e1, _⟩ | ⟨p', hp', e1, _⟩ | ⟨⟨rfl, rfl, rfl, rfl⟩, ⟨hP, rfl⟩ | ⟨_, hP, _⟩ | ⟨_, _, hP, _⟩⟩
    · exact absurd ⟨p', hp', e1⟩ h8
    · exact absurd ⟨p', hp', e1⟩ h8
    · exact ⟨_, _, rfl, hJ'.tp hS, h21, fun z => absurd z (by decide), hM', hf⟩
    · exact absurd trivial hP
    · exact absurd trivial hP
end RFT

