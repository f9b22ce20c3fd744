/-! Fault: a text is read alike on both sides. -/
def ra_v (M : fl_M) (t : Int32) : Int32 := (if (sk ((fl_u (fl_u M 24 0 0) 24 1 0) (fl_ar 10 t.toNatClampNeg)) (M 9 t.toNatClampNeg) 60 0) < (M 9 t.toNatClampNeg) then (if ((fl_u (fl_u M 24 0 0) 24 1 0) (fl_ar 10 t.toNatClampNeg) ((sk ((fl_u (fl_u M 24 0 0) 24 1 0) (fl_ar 10 t.toNatClampNeg)) (M 9 t.toNatClampNeg) 60 0).toNatClampNeg)) = 114 then (cpar (fl_ar 10 t.toNatClampNeg) (M 9 t.toNatClampNeg) 60 ((sk ((fl_u (fl_u M 24 0 0) 24 1 0) (fl_ar 10 t.toNatClampNeg)) (M 9 t.toNatClampNeg) 60 0) + 1) (fl_u (fl_u M 24 0 0) 24 1 0)).1 else sk ((fl_u (fl_u M 24 0 0) 24 1 0) (fl_ar 10 t.toNatClampNeg)) (M 9 t.toNatClampNeg) 60 0) else sk ((fl_u (fl_u M 24 0 0) 24 1 0) (fl_ar 10 t.toNatClampNeg)) (M 9 t.toNatClampNeg) 60 0)
def ra_M (M : fl_M) (t : Int32) : fl_M := (if (sk ((fl_u (fl_u M 24 0 0) 24 1 0) (fl_ar 10 t.toNatClampNeg)) (M 9 t.toNatClampNeg) 60 0) < (M 9 t.toNatClampNeg) then (if ((fl_u (fl_u M 24 0 0) 24 1 0) (fl_ar 10 t.toNatClampNeg) ((sk ((fl_u (fl_u M 24 0 0) 24 1 0) (fl_ar 10 t.toNatClampNeg)) (M 9 t.toNatClampNeg) 60 0).toNatClampNeg)) = 114 then (cpar (fl_ar 10 t.toNatClampNeg) (M 9 t.toNatClampNeg) 60 ((sk ((fl_u (fl_u M 24 0 0) 24 1 0) (fl_ar 10 t.toNatClampNeg)) (M 9 t.toNatClampNeg) 60 0) + 1) (fl_u (fl_u M 24 0 0) 24 1 0)).2 else (fl_u (fl_u M 24 0 0) 24 1 0)) else (fl_u (fl_u M 24 0 0) 24 1 0))
def fo_v (M : fl_M) (t : Int32) : Int32 := (if (hd_v (fl_u (fl_u (fl_u (fl_u (fl_u M 81 16 (60 * t)) 81 17 0) 81 18 (M 89 t.toNatClampNeg)) 81 19 0) 81 22 0)) = 0 then (rpar 60 (hd_v (fl_u (fl_u (fl_u (fl_u (fl_u M 81 16 (60 * t)) 81 17 0) 81 18 (M 89 t.toNatClampNeg)) 81 19 0) 81 22 0)) (hd_M (fl_u (fl_u (fl_u (fl_u (fl_u M 81 16 (60 * t)) 81 17 0) 81 18 (M 89 t.toNatClampNeg)) 81 19 0) 81 22 0))).1 else (rpar 60 (hd_v (fl_u (fl_u (fl_u (fl_u (fl_u M 81 16 (60 * t)) 81 17 0) 81 18 (M 89 t.toNatClampNeg)) 81 19 0) 81 22 0)) (rsk 60 (hd_M (fl_u (fl_u (fl_u (fl_u (fl_u M 81 16 (60 * t)) 81 17 0) 81 18 (M 89 t.toNatClampNeg)) 81 19 0) 81 22 0)))).1)
def fo_M (M : fl_M) (t : Int32) : fl_M := (if (hd_v (fl_u (fl_u (fl_u (fl_u (fl_u M 81 16 (60 * t)) 81 17 0) 81 18 (M 89 t.toNatClampNeg)) 81 19 0) 81 22 0)) = 0 then (rpar 60 (hd_v (fl_u (fl_u (fl_u (fl_u (fl_u M 81 16 (60 * t)) 81 17 0) 81 18 (M 89 t.toNatClampNeg)) 81 19 0) 81 22 0)) (hd_M (fl_u (fl_u (fl_u (fl_u (fl_u M 81 16 (60 * t)) 81 17 0) 81 18 (M 89 t.toNatClampNeg)) 81 19 0) 81 22 0))).2 else (rpar 60 (hd_v (fl_u (fl_u (fl_u (fl_u (fl_u M 81 16 (60 * t)) 81 17 0) 81 18 (M 89 t.toNatClampNeg)) 81 19 0) 81 22 0)) (rsk 60 (hd_M (fl_u (fl_u (fl_u (fl_u (fl_u M 81 16 (60 * t)) 81 17 0) 81 18 (M 89 t.toNatClampNeg)) 81 19 0) 81 22 0)))).2)
/-- a text is read alike -/
theorem ra_fo {C R : fl_M} {t : Int32} (hf : f2 C R) (hK : C 999 = sm_kl) (h0 : 0 ≤ t.toInt) (h3 : t.toInt ≤ 3) (hs : ¬ C 9 t.toNatClampNeg = (-1)) : ra_v C t = fo_v R t := by
  have ct := fi_cl t
  have hT4 : t.toNatClampNeg < 4 := by omega
  obtain ⟨t1, gl, gu, t2⟩ := hf.2 _ hT4
  have g1 := And.intro gl gu
  have s0 := fi_ne hs
  rw [fi_m1] at s0
  have n0 : 0 ≤ (C 9 t.toNatClampNeg).toInt := by omega
  have hb : pb (C 9 t.toNatClampNeg) (C (11 + t.toNatClampNeg)) := ⟨g1.2, fun i hi => (t2 i hi).2⟩
  have hps : ps (11 + t.toNatClampNeg) (C 9 t.toNatClampNeg) t (C (11 + t.toNatClampNeg)) (fl_u (fl_u C 24 0 0) 24 1 0) (fl_u (fl_u (fl_u (fl_u (fl_u R 81 16 (60 * t)) 81 17 0) 81 18 (R 89 t.toNatClampNeg)) 81 19 0) 81 22 0) := by
    refine ⟨by rw [fl_un (by omega), fl_un (by omega)], rfl, ?_, rfl, rfl, cI_0 hK, fun i hi => ?_, fun j hj => ?_, fun j hj => ?_⟩
    · show R 89 t.toNatClampNeg = _
      rw [← t1]
    · rw [fl_un (by decide), fl_un (by decide), fl_un (by decide), fl_un (by decide), fl_un (by decide)]
      exact (t2 i hi).1.symm
    · have hj : (j : Int) < (0 : Int32).toInt := hj
      rw [fi_i0] at hj
      omega
    · have hj : (j : Int) < (0 : Int32).toInt := hj
      rw [fi_i0] at hj
      omega
  have hC : (fl_u (fl_u C 24 0 0) 24 1 0) (11 + t.toNatClampNeg) = C (11 + t.toNatClampNeg) := hps.1
  unfold ra_v fo_v
  rw [fl_ar10, hC]
  generalize hE : (fl_u (fl_u (fl_u (fl_u (fl_u R 81 16 (60 * t)) 81 17 0) 81 18 (R 89 t.toNatClampNeg)) 81 19 0) 81 22 0) = E at hps ⊢
  have e17 : E 81 17 = 0 := by rw [← hE]; rfl
  have er := rsk_sk hps ⟨h0, h3⟩ hb 60 E rfl rfl hps.2.2.1 (by rw [e17]; decide)
  rw [e17] at er
  generalize hp : sk (C (11 + t.toNatClampNeg)) (C 9 t.toNatClampNeg) 60 0 = p at er ⊢
  have pge : 0 ≤ p.toInt := by
    have z := sk_ge (b := C (11 + t.toNatClampNeg)) g1.2 60 0 (by decide)
    rw [fi_i0, hp] at z
    exact z
  have hv : hd_v E = if p < C 9 t.toNatClampNeg then (if C (11 + t.toNatClampNeg) p.toNatClampNeg = 114 then 1 else 0) else 0 := by
    unfold hd_v
    rw [er]
    show (if p < E 81 18 then (if rh (fl_u E 81 17 p) = 114 then (1 : Int32) else 0) else 0) = _
    rw [hps.2.2.1]
    by_cases h1 : p < C 9 t.toNatClampNeg
    · rw [if_pos h1, if_pos h1, (rh_b hps ⟨h0, h3⟩ hb (X := fl_u E 81 17 p) (by rw [fl_un (by decide)]) rfl rfl pge (fi_l.mp h1)).1, fl_us]
    · rw [if_neg h1, if_neg h1]
  have hm0 : hd_v E = 0 → hd_M E 81 17 = p := by
    intro z
    unfold hd_M
    rw [er]
    rw [hv] at z
    show (if p < E 81 18 then (if rh (fl_u E 81 17 p) = 114 then _ else _) else _ : fl_M) 81 17 = p
    rw [hps.2.2.1]
    by_cases h1 : p < C 9 t.toNatClampNeg
    · rw [if_pos h1, (rh_b hps ⟨h0, h3⟩ hb (X := fl_u E 81 17 p) (by rw [fl_un (by decide)]) rfl rfl pge (fi_l.mp h1)).1, fl_us]
      rw [if_pos h1] at z
      by_cases h2 : C (11 + t.toNatClampNeg) p.toNatClampNeg = 114
      · rw [if_pos h2] at z
        exact absurd z (by decide)
      · rw [if_neg h2]
        show p + 0 = p
        exact Int32.add_zero p
    · rw [if_neg h1]
      show p + 0 = p
      exact Int32.add_zero p
  by_cases h1 : p < C 9 t.toNatClampNeg
  · rw [if_pos h1]
    by_cases h2 : C (11 + t.toNatClampNeg) p.toNatClampNeg = 114
    · rw [if_pos h2]
      have v1 : hd_v E = 1 := by rw [hv, if_pos h1, if_pos h2]
      have v0 : ¬ hd_v E = 0 := by rw [v1]; decide
      rw [if_neg v0]
      have z1 := fi_l.mp h1
      have e1 := fi_p1 (p := p) (by omega)
      have hm : hd_M E = fl_u (fl_u E 81 17 p) 81 17 (p + 1) := by
        unfold hd_M
        rw [er]
        show (if p < E 81 18 then (if rh (fl_u E 81 17 p) = 114 then fl_u (fl_u E 81 17 p) 81 17 (p + 1) else _) else _) = _
        rw [hps.2.2.1, if_pos h1, (rh_b hps ⟨h0, h3⟩ hb (X := fl_u E 81 17 p) (by rw [fl_un (by decide)]) rfl rfl pge z1).1, fl_us, if_pos h2]
      have hps2 := ps_mv (x := p + 1) (ps_mv (x := p) hps)
      have er2 := rsk_sk hps2 ⟨h0, h3⟩ hb 60 (fl_u (fl_u E 81 17 p) 81 17 (p + 1)) rfl rfl hps.2.2.1 (show 0 ≤ (p + 1).toInt by omega)
      rw [hm, er2]
      have sg := sk_ge (b := C (11 + t.toNatClampNeg)) g1.2 60 (p + 1) (by omega)
      refine (pa_eq ⟨h0, h3⟩ hb ⟨by omega, by omega⟩ 60 (p + 1) _ _ (hd_v E) 60 (ps_mv hps2) v0 (by omega) (by omega) rfl (by omega) ?_).1
      show (C 9 t.toNatClampNeg).toInt ≤ (sk (C (11 + t.toNatClampNeg)) (C 9 t.toNatClampNeg) 60 (p + 1)).toInt + (60 : Nat)
      omega
    · rw [if_neg h2]
      have v0 : hd_v E = 0 := by rw [hv, if_pos h1, if_neg h2]
      rw [if_pos v0, rpar_0 v0]
      exact (hm0 v0).symm
  · rw [if_neg h1]
    have v0 : hd_v E = 0 := by rw [hv, if_neg h1]
    rw [if_pos v0, rpar_0 v0]
    exact (hm0 v0).symm
section TOLD
variable {C R : fl_M}
theorem as_p (hq : qa) (h : t2 C R) : C 0 12 = R 81 11 := h.2.1 hq
theorem fn_p (h : t2 C R) : C 0 11 = R 81 14 := h.2.2.1
theorem up_p {J J' : fl_J} (h : jd J J') : J 0 13 = J' 81 12 := h.1
theorem lw_p {J J' : fl_J} (h : jd J J') : J 0 14 = J' 81 13 := h.2
end TOLD
