/-! The reference's tellParts by hand: the greatest common divisor is never nothing. -/
section HANDL
variable {B : sm_P} {X : sm_X} {P : Option Value → List va_E → Prop} {pc : Nat} {lv : sm_L} {h : List va_E}
theorem sm_go_ld {x y : Int64} {r : List Value} (hi : B.1 pc = some (.ldiv, 1)) (hy : y ≠ 0) (k : sm_Go B X P (pc + 1) lv (.long (x / y) :: r) h) : sm_Go B X P pc lv (.long y :: .long x :: r) h := by
  refine sm_go_st (t := (pc + 1, lv, .long (x / y) :: r, h)) hi ?_ k
  show (if y = 0 then _ else _) = _
  rw [if_neg hy]
theorem sm_go_lr {x y : Int64} {r : List Value} (hi : B.1 pc = some (.lrem, 1)) (hy : y ≠ 0) (k : sm_Go B X P (pc + 1) lv (.long (x - x / y * y) :: r) h) : sm_Go B X P pc lv (.long y :: .long x :: r) h := by
  refine sm_go_st (t := (pc + 1, lv, .long (x - x / y * y) :: r, h)) hi ?_ k
  show (if y = 0 then _ else _) = _
  rw [if_neg hy]
theorem sm_go_pl {x ci k a : Nat} {fs : List Value} {v : Int64} {r : List Value} (hi : B.1 pc = some (.putfield x, 3)) (hf : B.2.1.1 x = some (ci, k, 1)) (he : h[a]? = some (.inr (ci, fs))) (hl : k < fs.length) (kk : sm_Go B X P (pc + 3) lv r (h.set a (.inr (ci, fs.set k (.long v))))) : sm_Go B X P pc lv (.long v :: .ref a :: r) h := by
  refine sm_go_st (t := (pc + 3, lv, r, h.set a (.inr (ci, fs.set k (.long v))))) hi ?_ kk
  have ho : sm_obj h a ci = some fs := by unfold sm_obj; rw [he]; exact if_pos rfl
  show (B.2.1.1 x).bind _ = _
  rw [hf]
  show (if (1 : Nat) = 1 then (sm_obj h a ci).bind (fun fs => if k < fs.length then some (pc + 3, lv, r, h.set a (.inr (ci, fs.set k (.long v)))) else none) else none) = _
  rw [if_pos rfl, ho]
  show (if k < fs.length then _ else _) = _
  rw [if_pos hl]
end HANDL
theorem tp_z (b : Int64) : (lg_cmp b 0).toInt = 0 ↔ b.toInt = 0 := (ar_smcmp .eq (lg_cmp b 0) 0).symm.trans (aw_lcmp .eq b 0)
def tp_B : sm_P := (fun pc => sm_ch sm_t186 pc, sm_Kn 3 11 none, fun x => sm_lk sm_ca3 x, none)
