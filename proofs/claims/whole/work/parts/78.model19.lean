/-- what is put stays put -/
theorem arr_ext {t : txt} : ∀ (m i : Nat) (s : ost), ainv t i s → (∀ k j, s.2 k = some j → (arr t m i s).2.2 k = some j) ∧ ∀ j, j < i → (arr t m i s).2.1 j = s.1 j
  | 0, _, s, _ => ⟨fun _ _ h => h, fun _ _ => rfl⟩
  | m + 1, i, s, I => by
    cases q : frdy t s.2 with
    | none =>
      have e : arr t (m + 1) i s = (false, s) := by
        show (match frdy t s.2 with | some k => arr t m (i + 1) (u1 s.1 i k, u1 s.2 k (some i)) | none => (false, s)) = _
        rw [q]
      rw [e]
      exact ⟨fun _ _ h => h, fun _ _ => rfl⟩
    | some r =>
      have e : arr t (m + 1) i s = arr t m (i + 1) (u1 s.1 i r, u1 s.2 r (some i)) := by
        show (match frdy t s.2 with | some k => arr t m (i + 1) (u1 s.1 i k, u1 s.2 k (some i)) | none => (false, s)) = _
        rw [q]
      rw [e]
      obtain ⟨a, b⟩ := arr_ext m (i + 1) _ (ainv_s I q)
      have fr := (frdy_some q).2.1
      refine ⟨fun k j h => a k j ?_, fun j hj => ?_⟩
      · show u1 s.2 r (some i) k = some j
        rw [u1_n (fun y => by rw [y, fr] at h; cases h)]
        exact h
      · rw [b j (by omega)]
        exact u1_n (by omega)
theorem sgn_cg {t : txt} {K : Bool} {rk rk' : Nat → Option Nat} {lit : Nat} (h : ∀ b, AO (tD t) (tn t) lit = some b → rk b = rk' b) : sgn t K rk lit = sgn t K rk' lit := by
  unfold sgn
  split
  · rfl
  · cases q : AO (tD t) (tn t) lit with
    | none => rfl
    | some b =>
      show tn t + _ + (rk b).getD 0 = tn t + _ + (rk' b).getD 0
      rw [h b q]
theorem sg_cg {t : txt} {K : Bool} {rk rk' : Nat → Option Nat} {lit : Nat} (h : ∀ b, AO (tD t) (tn t) lit = some b → rk b = rk' b) : sg t K rk lit = sg t K rk' lit := by
  unfold sg
  rw [sgn_cg h]
/-- one AND more is there -/
theorem THS_s {h : hp} {t : txt} {K : Bool} {rk : Nat → Option Nat} (T : THS h t K rk) (inj : ∀ v w, tD t v ≠ 0 → tD t v = tD t w → v = w) {v r i : Nat} (hv : 0 < v) (dv : tD t v = tn t + 1 + r) (hr : rk r = none) {x : Int32} (hx : x = nI (tn t + (k0 K + i))) : THS (sI (sI h 1324 v x) 1325 v 1) t K (u1 rk r (some i)) := fun w hw => by
  show u1 (hI h 1325) v 1 w = _ ∧ (_ → u1 (hI h 1324) v x w = _)
  by_cases e : w = v
  · rw [e, u1_s, u1_s]
    have et : thv t K (u1 rk r (some i)) v = true := by rw [thv_lhs hv dv, u1_s]; rfl
    refine ⟨by rw [et]; rfl, fun _ => ?_⟩
    rw [hx]
    congr 1
    unfold sgn AO
    rw [show 2 * v / 2 = v by omega, if_neg (by omega), if_pos (by omega)]
    show _ = tn t + (if K then 1 else 0) + (u1 rk r (some i) (tD t v - tn t - 1)).getD 0
    rw [dv, show tn t + 1 + r - tn t - 1 = r by omega, u1_s]
    show tn t + (k0 K + i) = tn t + k0 K + i
    omega
  · rw [u1_n e, u1_n e]
    have ne : tn t < tD t w → tD t w - tn t - 1 ≠ r := fun y z => e (inj w v (by omega) (by omega))
    have et : thv t K (u1 rk r (some i)) w = thv t K rk w := by
      unfold thv
      by_cases y : w = 0
      · rw [if_pos y, if_pos y]
      · rw [if_neg y, if_neg y]
        by_cases y2 : tD t w = 0
        · rw [if_pos y2, if_pos y2]
        · rw [if_neg y2, if_neg y2]
          by_cases y3 : tD t w ≤ tn t
          · rw [if_pos y3, if_pos y3]
          · rw [if_neg y3, if_neg y3, u1_n (ne (by omega))]
    rw [et]
    refine ⟨(T w hw).1, fun y => ?_⟩
    rw [(T w hw).2 y]
    congr 1
    refine sgn_cg (fun b hb => ?_)
    unfold AO at hb
    rw [show 2 * w / 2 = w by omega] at hb
    split at hb
    · rename_i u
      injection hb with hb
      rw [u1_n (by rw [← hb]; exact ne u)]
    · cases hb
