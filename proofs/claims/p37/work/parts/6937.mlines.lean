section MLines3
variable {f : Nat → Int32} {n a rd nm ns nk p : Nat} {A : AS} {σ : Res} {Q : Int32 → HS → Prop} {QU : HS → Prop} {S T : HS} {v0 : Nat}
theorem room_e {p q H c k : Nat} (h : sRoom f n p H c k = .inl q) : q = tEn f n p := by
  unfold sRoom at h
  split at h
  · cases h
  · split at h
    · cases h; rfl
    · cases h
theorem sp_X11_readPlace (h : P_X11_readPlace v0 QU S) (M : MS f n a v0 (.inl p) S) (W : RMw v0 rd nm ns nk A S) (hg : ∀ q, (.inl p : Res) = .inl q → tS f n q ≠ 6) (hAM : aM A = aP A + aW A) : P_X11_readPlace v0 (fun T => QU T ∧ LBm f n a v0 rd nm ns nk (rb (sRoom f n p (aH A) (aP A) 8) fun p => sPlace f n p A) (up2 (upN A (tV f n (tEn f n p)) (aP A))) T) S := by
  delta P_X11_readPlace P_X11_readPlace_0
  obtain ⟨oq1, h⟩ := h
  refine ⟨oq1, ?_⟩
  obtain ⟨aq2, eaq2, h⟩ := h
  refine ⟨aq2, eaq2, ?_⟩
  cases W.1.symm.trans eaq2
  obtain ⟨oq3, h⟩ := h
  refine ⟨oq3, ?_⟩
  intro xq4 exq4
  have h := h xq4 exq4
  refine cm_X11_begins (sp_X11_begins (c := aP A) (k := 8) h M W hg (exq4.trans W.2.2.1.2.2.1) rfl W.2.2.2.2.1.2.2.1 (by decide) (fun z => by have := W.2.2.2.2.2 z; omega)) h (fun Sq5 hp h gq6 => ?_)
  have h := h gq6
  obtain ⟨-, M, G⟩ := hp
  have W := rm_F W G
  refine cm_X11_readFresh (sp_X11_readFresh h M W) h (fun xq7 Sq8 hp h gq9 => ?_)
  have h := h gq9
  obtain ⟨-, M, G, Vxq7⟩ := hp
  have W := rm_F W G
  refine cm_X11_eatsWord (sp_X11_eatsWord (w := 15) h M (by decide)) h (fun xq10 Sq11 hp h gq12 bq13 => ?_)
  have h := h gq12 bq13
  obtain ⟨-, M, G, Vxq10⟩ := hp
  have W := rm_F W G
  refine ⟨?_, ?_⟩
  · intro cq14
    have Ncq14 := an1 Vxq10 cq14
    have h := h.1 cq14
    delta P_X11_readPlace_48
    delta P_X11_readPlace_50
    obtain ⟨oq15, h⟩ := h
    refine ⟨oq15, ?_⟩
    intro xq16 exq16
    have h := h xq16 exq16
    refine ⟨?_, ?_⟩
    · intro cq17
      obtain ⟨q, hq⟩ := ms_ok M (fun z => cq17 (exq16.trans z))
      have M := ms_eq (τ := rb (sRoom f n p (aH A) (aP A) 8) fun p => sPlace f n p A) M ((rb_cg (k := fun p => dc (isW f n p 15) (.inl (tEn f n p)) (dc (isW f n p 16) (sPart f n p 16 0 9) (.inl p))) (fun q hq => by rw [dc_y (hw_p Ncq14 hq), dc_y (hw_p Ncq14 hq)])).trans (by simp only [rb_rb, sPlace]; rfl))
      have hq : (rb (sRoom f n p (aH A) (aP A) 8) fun p => sPlace f n p A) = .inl q := Eq.trans (Eq.symm ((rb_cg (k := fun p => dc (isW f n p 15) (.inl (tEn f n p)) (dc (isW f n p 16) (sPart f n p 16 0 9) (.inl p))) (fun q hq => by rw [dc_y (hw_p Ncq14 hq), dc_y (hw_p Ncq14 hq)])).trans (by simp only [rb_rb, sPlace]; rfl))) hq
      obtain ⟨p1, hp1, hq1⟩ := rb_inl hq
      unfold sPlace at hq1
      obtain ⟨p2, hp2, -⟩ := rb_inl hq1
      have rk := room_ok hp1
      have hv := Vxq7 p1 p2 hp1 hp2
      rw [room_e hp1] at hv
      have h := h.1 cq17
      obtain ⟨aq18, eaq18, h⟩ := h
      refine ⟨aq18, eaq18, ?_⟩
      cases W.1.symm.trans eaq18
      obtain ⟨oq19, h⟩ := h
      refine ⟨oq19, ?_⟩
      intro xq20 exq20
      have h := h xq20 exq20
      refine cm_X11_names (sp_X11_names (idn := aP A) h M W (by have := W.2.2.2.2.1; have := rk.2; have := W.2.2.2.2.1.2.2.2.2.1; omega) (by rw [if_pos rk.2]) (by rw [if_pos rk.2, exq20]; exact W.2.2.1.2.2.1) (by have := rk.2; omega)) h (fun Sq21 hp h gq22 => ?_)
      have h := h gq22
      obtain ⟨-, M, W⟩ := hp
      rw [hv] at W
      obtain ⟨aq23, eaq23, h⟩ := h
      refine ⟨aq23, eaq23, ?_⟩
      cases W.1.symm.trans eaq23
      obtain ⟨oq24, h⟩ := h
      refine ⟨oq24, ?_⟩
      obtain ⟨aq25, eaq25, h⟩ := h
      refine ⟨aq25, eaq25, ?_⟩
      obtain ⟨aq26, eaq26, h⟩ := h
      refine ⟨aq26, eaq26, ?_⟩
      cases W.1.symm.trans eaq26
      obtain ⟨oq27, h⟩ := h
      refine ⟨oq27, ?_⟩
      intro xq28 exq28
      have h := h xq28 exq28
      obtain ⟨oq29, h⟩ := h
      refine ⟨oq29, ?_⟩
      obtain ⟨oq30, h⟩ := h
      refine ⟨oq30, ?_⟩
      intro Sq31 eSq31
      have h := h Sq31 eSq31
      obtain ⟨M, W⟩ := wr_I M W eaq25 oq29 eSq31 (by decide) (by decide)
      obtain ⟨aq32, eaq32, h⟩ := h
      refine ⟨aq32, eaq32, ?_⟩
      cases W.1.symm.trans eaq32
      obtain ⟨oq33, h⟩ := h
      refine ⟨oq33, ?_⟩
      obtain ⟨aq34, eaq34, h⟩ := h
      refine ⟨aq34, eaq34, ?_⟩
      obtain ⟨aq35, eaq35, h⟩ := h
      refine ⟨aq35, eaq35, ?_⟩
      cases W.1.symm.trans eaq35
      obtain ⟨oq36, h⟩ := h
      refine ⟨oq36, ?_⟩
      intro xq37 exq37
      have h := h xq37 exq37
      obtain ⟨oq38, h⟩ := h
      refine ⟨oq38, ?_⟩
      obtain ⟨oq39, h⟩ := h
      refine ⟨oq39, ?_⟩
      intro Sq40 eSq40
      have h := h Sq40 eSq40
      obtain ⟨M, W⟩ := wr_I M W eaq34 oq38 eSq40 (by decide) (by decide)
      obtain ⟨aq41, eaq41, h⟩ := h
      refine ⟨aq41, eaq41, ?_⟩
      cases W.1.symm.trans eaq41
      obtain ⟨oq42, h⟩ := h
      refine ⟨oq42, ?_⟩
      intro xq43 exq43
      have h := h xq43 exq43
      intro xq44 exq44
      have h := h xq44 exq44
      intro Sq45 eSq45
      have h := h Sq45 eSq45
      have eL := eSq45
      obtain ⟨M, W⟩ := wr_C (A' := up2 (upN A (tV f n (tEn f n p)) (aP A))) M W eL (by decide) (cn_2 W.2.2.1 eL (inc_ exq43 W.2.2.1.2.2.1 exq44)) rfl (ab_2 W.2.2.2.2.1 rk.2) (zc_h rk.1)
      exact ⟨h, lm_ok M rfl W⟩
    · intro cq46
      exact ⟨h.2 cq46, lm_ov M ((rb_cg (k := fun p => dc (isW f n p 15) (.inl (tEn f n p)) (dc (isW f n p 16) (sPart f n p 16 0 9) (.inl p))) (fun q hq => by rw [dc_y (hw_p Ncq14 hq), dc_y (hw_p Ncq14 hq)])).trans (by simp only [rb_rb, sPlace]; rfl)) (exq16.symm.trans cq46)⟩
  · intro cq47
    have Ncq47 := an0 Vxq10 cq47
    have M := ms_eq M (rb_idd (fun p hp => (dc_n (hw_np Ncq47 hp)).symm)).symm
    have h := h.2 cq47
    refine cm_X11_eatsWord (sp_X11_eatsWord (w := 16) h M (by decide)) h (fun xq48 Sq49 hp h gq50 bq51 => ?_)
    have h := h gq50 bq51
    obtain ⟨-, M, G, Vxq48⟩ := hp
    have W := rm_F W G
    refine ⟨?_, ?_⟩
    · intro cq52
      have Ncq52 := an0 Vxq48 cq52
      have M := ms_eq M (rb_idd (fun p hp => (dc_n (hw_np Ncq52 hp)).symm)).symm
      have h := h.1 cq52
      delta P_X11_readPlace_48
      delta P_X11_readPlace_50
      obtain ⟨oq53, h⟩ := h
      refine ⟨oq53, ?_⟩
      intro xq54 exq54
      have h := h xq54 exq54
      refine ⟨?_, ?_⟩
      · intro cq55
        obtain ⟨q, hq⟩ := ms_ok M (fun z => cq55 (exq54.trans z))
        have M := ms_eq (τ := rb (sRoom f n p (aH A) (aP A) 8) fun p => sPlace f n p A) M ((rb_idd (k := fun p => dc (isW f n p 15) (.inl (tEn f n p)) (dc (isW f n p 16) (sPart f n p 16 0 9) (.inl p))) (fun q hq => by rw [dc_n (hw_np Ncq47 hq), dc_n (hw_np Ncq52 hq)])).trans (by simp only [rb_rb, sPlace]; rfl))
        have hq : (rb (sRoom f n p (aH A) (aP A) 8) fun p => sPlace f n p A) = .inl q := Eq.trans (Eq.symm ((rb_idd (k := fun p => dc (isW f n p 15) (.inl (tEn f n p)) (dc (isW f n p 16) (sPart f n p 16 0 9) (.inl p))) (fun q hq => by rw [dc_n (hw_np Ncq47 hq), dc_n (hw_np Ncq52 hq)])).trans (by simp only [rb_rb, sPlace]; rfl))) hq
        obtain ⟨p1, hp1, hq1⟩ := rb_inl hq
        unfold sPlace at hq1
        obtain ⟨p2, hp2, -⟩ := rb_inl hq1
        have rk := room_ok hp1
        have hv := Vxq7 p1 p2 hp1 hp2
        rw [room_e hp1] at hv
        have h := h.1 cq55
        obtain ⟨aq56, eaq56, h⟩ := h
        refine ⟨aq56, eaq56, ?_⟩
        cases W.1.symm.trans eaq56
        obtain ⟨oq57, h⟩ := h
        refine ⟨oq57, ?_⟩
        intro xq58 exq58
        have h := h xq58 exq58
        refine cm_X11_names (sp_X11_names (idn := aP A) h M W (by have := W.2.2.2.2.1; have := rk.2; have := W.2.2.2.2.1.2.2.2.2.1; omega) (by rw [if_pos rk.2]) (by rw [if_pos rk.2, exq58]; exact W.2.2.1.2.2.1) (by have := rk.2; omega)) h (fun Sq59 hp h gq60 => ?_)
        have h := h gq60
        obtain ⟨-, M, W⟩ := hp
        rw [hv] at W
        obtain ⟨aq61, eaq61, h⟩ := h
        refine ⟨aq61, eaq61, ?_⟩
        cases W.1.symm.trans eaq61
        obtain ⟨oq62, h⟩ := h
        refine ⟨oq62, ?_⟩
        obtain ⟨aq63, eaq63, h⟩ := h
        refine ⟨aq63, eaq63, ?_⟩
        obtain ⟨aq64, eaq64, h⟩ := h
        refine ⟨aq64, eaq64, ?_⟩
        cases W.1.symm.trans eaq64
        obtain ⟨oq65, h⟩ := h
        refine ⟨oq65, ?_⟩
        intro xq66 exq66
        have h := h xq66 exq66
        obtain ⟨oq67, h⟩ := h
        refine ⟨oq67, ?_⟩
        obtain ⟨oq68, h⟩ := h
        refine ⟨oq68, ?_⟩
        intro Sq69 eSq69
        have h := h Sq69 eSq69
        obtain ⟨M, W⟩ := wr_I M W eaq63 oq67 eSq69 (by decide) (by decide)
        obtain ⟨aq70, eaq70, h⟩ := h
        refine ⟨aq70, eaq70, ?_⟩
        cases W.1.symm.trans eaq70
        obtain ⟨oq71, h⟩ := h
        refine ⟨oq71, ?_⟩
        obtain ⟨aq72, eaq72, h⟩ := h
        refine ⟨aq72, eaq72, ?_⟩
        obtain ⟨aq73, eaq73, h⟩ := h
        refine ⟨aq73, eaq73, ?_⟩
        cases W.1.symm.trans eaq73
        obtain ⟨oq74, h⟩ := h
        refine ⟨oq74, ?_⟩
        intro xq75 exq75
        have h := h xq75 exq75
        obtain ⟨oq76, h⟩ := h
        refine ⟨oq76, ?_⟩
        obtain ⟨oq77, h⟩ := h
        refine ⟨oq77, ?_⟩
        intro Sq78 eSq78
        have h := h Sq78 eSq78
        obtain ⟨M, W⟩ := wr_I M W eaq72 oq76 eSq78 (by decide) (by decide)
        obtain ⟨aq79, eaq79, h⟩ := h
        refine ⟨aq79, eaq79, ?_⟩
        cases W.1.symm.trans eaq79
        obtain ⟨oq80, h⟩ := h
        refine ⟨oq80, ?_⟩
        intro xq81 exq81
        have h := h xq81 exq81
        intro xq82 exq82
        have h := h xq82 exq82
        intro Sq83 eSq83
        have h := h Sq83 eSq83
        have eL := eSq83
        obtain ⟨M, W⟩ := wr_C (A' := up2 (upN A (tV f n (tEn f n p)) (aP A))) M W eL (by decide) (cn_2 W.2.2.1 eL (inc_ exq81 W.2.2.1.2.2.1 exq82)) rfl (ab_2 W.2.2.2.2.1 rk.2) (zc_h rk.1)
        exact ⟨h, lm_ok M rfl W⟩
      · intro cq84
        exact ⟨h.2 cq84, lm_ov M ((rb_idd (k := fun p => dc (isW f n p 15) (.inl (tEn f n p)) (dc (isW f n p 16) (sPart f n p 16 0 9) (.inl p))) (fun q hq => by rw [dc_n (hw_np Ncq47 hq), dc_n (hw_np Ncq52 hq)])).trans (by simp only [rb_rb, sPlace]; rfl)) (exq54.symm.trans cq84)⟩
    · intro cq85
      have Ncq85 := an1 Vxq48 cq85
      have h := h.2 cq85
      refine cm_X11_readWhole (sp_X11_readWhole h M) h (fun xq86 Sq87 hp h gq88 => ?_)
      have h := h gq88
      obtain ⟨-, M, G, Vxq86⟩ := hp
      have W := rm_F W G
      delta P_X11_readPlace_50
      obtain ⟨oq89, h⟩ := h
      refine ⟨oq89, ?_⟩
      intro xq90 exq90
      have h := h xq90 exq90
      refine ⟨?_, ?_⟩
      · intro cq91
        obtain ⟨q, hq⟩ := ms_ok M (fun z => cq91 (exq90.trans z))
        have M := ms_eq (τ := rb (sRoom f n p (aH A) (aP A) 8) fun p => sPlace f n p A) M ((rb_rb.trans (rb_cg (k := fun p => dc (isW f n p 15) (.inl (tEn f n p)) (dc (isW f n p 16) (sPart f n p 16 0 9) (.inl p))) (fun q hq => by rw [dc_y (hw_p Ncq85 hq), dc_n (hw_np Ncq47 hq), dc_y (hw_p Ncq85 hq)]; unfold sPart sWord; rw [if_pos (hw_p Ncq85 hq)]; rfl))).trans (by simp only [rb_rb, sPlace]; rfl))
        have hq : (rb (sRoom f n p (aH A) (aP A) 8) fun p => sPlace f n p A) = .inl q := Eq.trans (Eq.symm ((rb_rb.trans (rb_cg (k := fun p => dc (isW f n p 15) (.inl (tEn f n p)) (dc (isW f n p 16) (sPart f n p 16 0 9) (.inl p))) (fun q hq => by rw [dc_y (hw_p Ncq85 hq), dc_n (hw_np Ncq47 hq), dc_y (hw_p Ncq85 hq)]; unfold sPart sWord; rw [if_pos (hw_p Ncq85 hq)]; rfl))).trans (by simp only [rb_rb, sPlace]; rfl))) hq
        obtain ⟨p1, hp1, hq1⟩ := rb_inl hq
        unfold sPlace at hq1
        obtain ⟨p2, hp2, -⟩ := rb_inl hq1
        have rk := room_ok hp1
        have hv := Vxq7 p1 p2 hp1 hp2
        rw [room_e hp1] at hv
        have h := h.1 cq91
        obtain ⟨aq92, eaq92, h⟩ := h
        refine ⟨aq92, eaq92, ?_⟩
        cases W.1.symm.trans eaq92
        obtain ⟨oq93, h⟩ := h
        refine ⟨oq93, ?_⟩
        intro xq94 exq94
        have h := h xq94 exq94
        refine cm_X11_names (sp_X11_names (idn := aP A) h M W (by have := W.2.2.2.2.1; have := rk.2; have := W.2.2.2.2.1.2.2.2.2.1; omega) (by rw [if_pos rk.2]) (by rw [if_pos rk.2, exq94]; exact W.2.2.1.2.2.1) (by have := rk.2; omega)) h (fun Sq95 hp h gq96 => ?_)
        have h := h gq96
        obtain ⟨-, M, W⟩ := hp
        rw [hv] at W
        obtain ⟨aq97, eaq97, h⟩ := h
        refine ⟨aq97, eaq97, ?_⟩
        cases W.1.symm.trans eaq97
        obtain ⟨oq98, h⟩ := h
        refine ⟨oq98, ?_⟩
        obtain ⟨aq99, eaq99, h⟩ := h
        refine ⟨aq99, eaq99, ?_⟩
        obtain ⟨aq100, eaq100, h⟩ := h
        refine ⟨aq100, eaq100, ?_⟩
        cases W.1.symm.trans eaq100
        obtain ⟨oq101, h⟩ := h
        refine ⟨oq101, ?_⟩
        intro xq102 exq102
        have h := h xq102 exq102
        obtain ⟨oq103, h⟩ := h
        refine ⟨oq103, ?_⟩
        obtain ⟨oq104, h⟩ := h
        refine ⟨oq104, ?_⟩
        intro Sq105 eSq105
        have h := h Sq105 eSq105
        obtain ⟨M, W⟩ := wr_I M W eaq99 oq103 eSq105 (by decide) (by decide)
        obtain ⟨aq106, eaq106, h⟩ := h
        refine ⟨aq106, eaq106, ?_⟩
        cases W.1.symm.trans eaq106
        obtain ⟨oq107, h⟩ := h
        refine ⟨oq107, ?_⟩
        obtain ⟨aq108, eaq108, h⟩ := h
        refine ⟨aq108, eaq108, ?_⟩
        obtain ⟨aq109, eaq109, h⟩ := h
        refine ⟨aq109, eaq109, ?_⟩
        cases W.1.symm.trans eaq109
        obtain ⟨oq110, h⟩ := h
        refine ⟨oq110, ?_⟩
        intro xq111 exq111
        have h := h xq111 exq111
        obtain ⟨oq112, h⟩ := h
        refine ⟨oq112, ?_⟩
        obtain ⟨oq113, h⟩ := h
        refine ⟨oq113, ?_⟩
        intro Sq114 eSq114
        have h := h Sq114 eSq114
        obtain ⟨M, W⟩ := wr_I M W eaq108 oq112 eSq114 (by decide) (by decide)
        obtain ⟨aq115, eaq115, h⟩ := h
        refine ⟨aq115, eaq115, ?_⟩
        cases W.1.symm.trans eaq115
        obtain ⟨oq116, h⟩ := h
        refine ⟨oq116, ?_⟩
        intro xq117 exq117
        have h := h xq117 exq117
        intro xq118 exq118
        have h := h xq118 exq118
        intro Sq119 eSq119
        have h := h Sq119 eSq119
        have eL := eSq119
        obtain ⟨M, W⟩ := wr_C (A' := up2 (upN A (tV f n (tEn f n p)) (aP A))) M W eL (by decide) (cn_2 W.2.2.1 eL (inc_ exq117 W.2.2.1.2.2.1 exq118)) rfl (ab_2 W.2.2.2.2.1 rk.2) (zc_h rk.1)
        exact ⟨h, lm_ok M rfl W⟩
      · intro cq120
        exact ⟨h.2 cq120, lm_ov M ((rb_rb.trans (rb_cg (k := fun p => dc (isW f n p 15) (.inl (tEn f n p)) (dc (isW f n p 16) (sPart f n p 16 0 9) (.inl p))) (fun q hq => by rw [dc_y (hw_p Ncq85 hq), dc_n (hw_np Ncq47 hq), dc_y (hw_p Ncq85 hq)]; unfold sPart sWord; rw [if_pos (hw_p Ncq85 hq)]; rfl))).trans (by simp only [rb_rb, sPlace]; rfl)) (exq90.symm.trans cq120)⟩
end MLines3
