/-! ===== each node of a text is defined once ===== -/
def PJ (m : Nat) (s : pst) : Prop := (∀ v, s.2.1 v ≤ m) ∧ ∀ v w, s.2.1 v ≠ 0 → s.2.1 v = s.2.1 w → v = w
theorem PJ.of {m : Nat} {s s' : pst} (P : PJ m s) (e : s'.2.1 = s.2.1) : PJ m s' := by unfold PJ; rw [e]; exact P
theorem Fuse_D {B : Nat → Int32} {z H : Nat} {s s' : pst} (h : Fuse B z H s = .ok s') : s'.2.1 = s.2.1 := by
  unfold Fuse at h
  split at h
  · split at h
    · cases h
    · injection h with h
      subst h; rfl
  · cases h
theorem Fex_D {B : Nat → Int32} {z c : Nat} {s s' : pst} (h : Fex B z c s = .ok s') : s'.2.1 = s.2.1 := by rw [Fex_ok h]
theorem PJ.df {m : Nat} {B : Nat → Int32} {z H : Nat} {s s' : pst} (P : PJ m s) (h : Fdef B z H (m + 1) s = .ok s') : PJ (m + 1) s' := by
  unfold Fdef at h
  split at h
  · split at h
    · cases h
    · injection h with h
      subst h
      refine ⟨fun v => ?_, fun v w a b => ?_⟩
      · show u1 s.2.1 _ (m + 1) v ≤ m + 1
        by_cases e : v = (numP B z s.1).1 / 2
        · rw [e, u1_s]; exact Nat.le_refl _
        · rw [u1_n e]; have := P.1 v; omega
      · have a : u1 s.2.1 ((numP B z s.1).1 / 2) (m + 1) v ≠ 0 := a
        have b : u1 s.2.1 ((numP B z s.1).1 / 2) (m + 1) v = u1 s.2.1 ((numP B z s.1).1 / 2) (m + 1) w := b
        by_cases e : v = (numP B z s.1).1 / 2
        · by_cases e2 : w = (numP B z s.1).1 / 2
          · rw [e, e2]
          · rw [e, u1_s, u1_n e2] at b
            have := P.1 w
            omega
        · by_cases e2 : w = (numP B z s.1).1 / 2
          · rw [e2, u1_s, u1_n e] at b
            have := P.1 v
            omega
          · rw [u1_n e] at a b
            rw [u1_n e2] at b
            exact P.2 v w a b
  · cases h
theorem PJ.ins {B : Nat → Int32} {z H : Nat} : ∀ (m i : Nat) (s s' : pst), Fins B z H m i s = .ok s' → PJ i s → PJ (i + m) s'
  | 0, _, s, s', h, P => by
    have h : (Except.ok s : pres) = .ok s' := h
    injection h with h
    subst h; exact P
  | m + 1, i, s, s', h, P => by
    obtain ⟨a, h1, h2⟩ := bind_ok h
    obtain ⟨b, h3, h4⟩ := bind_ok h1
    have := PJ.ins m (i + 1) a s' h2 ((P.df h3).of (Fex_D h4))
    rw [show i + (m + 1) = i + 1 + m by omega]
    exact this
theorem PJ.outs {B : Nat → Int32} {z H M : Nat} : ∀ (m : Nat) (s s' : pst), Fouts B z H m s = .ok s' → PJ M s → PJ M s'
  | 0, s, s', h, P => by
    have h : (Except.ok s : pres) = .ok s' := h
    injection h with h
    subst h; exact P
  | m + 1, s, s', h, P => by
    obtain ⟨a, h1, h2⟩ := bind_ok h
    obtain ⟨b, h3, h4⟩ := bind_ok h1
    exact PJ.outs m a s' h2 ((P.of (Fuse_D h3)).of (Fex_D h4))
theorem PJ.ands {B : Nat → Int32} {z H n : Nat} : ∀ (m : Nat) (s s' : pst), Fands B z H n m s = .ok s' → PJ (n + s.2.2.2.2.2) s → PJ (n + s.2.2.2.2.2 + m) s'
  | 0, s, s', h, P => by
    have h : (Except.ok s : pres) = .ok s' := h
    injection h with h
    subst h; exact P
  | m + 1, s, s', h, P => by
    obtain ⟨a, h0, h9⟩ := bind_ok h
    obtain ⟨a5, h5, k6⟩ := bind_ok h0
    obtain ⟨a4, h4, k5⟩ := bind_ok h5
    obtain ⟨a3, h3, k4⟩ := bind_ok h4
    obtain ⟨a2, h2, k3⟩ := bind_ok h3
    obtain ⟨a1, h1, k2⟩ := bind_ok h2
    have P0 : PJ (n + s.2.2.2.2.2) (Fap s) := P
    rw [show n + 1 + s.2.2.2.2.2 = n + s.2.2.2.2.2 + 1 by omega] at h1
    have P6 := (((((P0.df h1).of (Fex_D k2)).of (Fuse_D k3)).of (Fex_D k4)).of (Fuse_D k5)).of (Fex_D k6)
    have ec : a.2.2.2.2.2 = s.2.2.2.2.2 + 1 := by rw [Fex_ok k6, (Fuse_ok k5).2, Fex_ok k4, (Fuse_ok k3).2, Fex_ok k2, Fdef_ok h1]; rfl
    have := PJ.ands m a s' h9 (by rw [ec, show n + (s.2.2.2.2.2 + 1) = n + s.2.2.2.2.2 + 1 by omega]; exact P6)
    rw [ec] at this
    rw [show n + s.2.2.2.2.2 + (m + 1) = n + (s.2.2.2.2.2 + 1) + m by omega]
    exact this
theorem body_pj {B : Nat → Int32} {z n a : Nat} {hv : Nat → Nat} {s : pst} (h : Fbody B z n hv (a, s00.2) = .ok s) : ∀ v w, s.2.1 v ≠ 0 → s.2.1 v = s.2.1 w → v = w := by
  obtain ⟨s4, h4, k5⟩ := bind_ok h
  obtain ⟨s3, h3, k4⟩ := bind_ok h4
  obtain ⟨s2, h2, k3⟩ := bind_ok h3
  obtain ⟨s1, h1, k2⟩ := bind_ok h2
  have P0 : PJ 0 (a, s00.2) := ⟨fun _ => Nat.le_refl _, fun v w y => absurd (show (0 : Nat) = 0 from rfl) y⟩
  have P1 := PJ.ins n 0 _ _ h1 P0
  rw [Nat.zero_add] at P1
  have e1 := Fins_ok _ _ _ _ h1
  have e3 := (Fouts_ok _ _ _ k2).2
  have x3 : s2.2.2.2.2.2 = 0 := by rw [e3, e1]; rfl
  have P3 := PJ.ands _ _ _ k3 (by rw [x3]; exact PJ.outs _ _ _ k2 P1)
  rw [(Fnd_ok _ _ _ _ k5).1, Fend_ok k4]
  exact P3.2
/-! ===== gates and outputs of a text ===== -/
set_option maxHeartbeats 2000000 in
set_option maxRecDepth 10000 in
theorem sp_mg0_8 {d : Nat} {h : hp} (S : Sh h) {n g : Nat} (e1 : hI h 47 1 = nI n) (e2 : hI h 48 0 = nI g) (hg : g < 120) : Run (d + 1 + 1) 110 [.ref 47, .int 0, .int 8, .int 0, .int 0, .int 0] h 0 0 (some (.int (nI (n + g)))) (chg (sI (sI (sI (sI (sI h 51 g 8) 54 g 0) 57 g 0) 60 g 0) 48 0 (nI (g + 1)))) := by
  refine Run.of (Nat.le_of_ble_eq_true rfl) (fun Q hQ => ?_)
  show Wp (Ex (d + 1)) 110 Q 0 [(0, .ref 47), (1, .int 0), (2, .int 8), (3, .int 0), (4, .int 0), (5, .int 0)] [] h 0 0
  refine r_iload_n (q110 (i := 0) rfl) rfl ?_
  refine r_cS (d := _) (q110 (i := 1) rfl) rfl (Nat.le_of_ble_eq_true rfl) rfl rfl (Nat.le_of_ble_eq_true rfl) (Nat.zero_le _) (Nat.zero_le _) (sp_isC0 (d := d)) ?_
  show Wp _ _ _ 4 [(0, .ref 47), (1, .int 0), (2, .int 8), (3, .int 0), (4, .int 0), (5, .int 0)] [.int 1] h _ _
  refine r_if 17 (q110 (i := 2) rfl) (by decide) (fun zz => absurd zz (show ¬ ((1 : Int32) = 0) from by decide)) (fun _ => ?_)
  refine r_iload_n (q110 (i := 3) rfl) rfl ?_
  refine r_if 17 (q110 (i := 4) rfl) (by decide) (fun zz => absurd zz (show ¬ ((8 : Int32) < 0) from by decide)) (fun _ => ?_)
  refine r_iload_n (q110 (i := 5) rfl) rfl ?_
  refine r_bipush (v := 8) (q110 (i := 6) rfl) (by decide) ?_
  refine r_icmp 19 (q110 (i := 7) rfl) (by decide) (fun _ => ?_) (fun zz => absurd (show (8 : Int32) ≤ 8 from by decide) zz)
  refine r_iload_n (q110 (i := 10) rfl) rfl ?_
  refine r_bipush (v := 8) (q110 (i := 11) rfl) (by decide) ?_
  refine r_icmp 60 (q110 (i := 12) rfl) (by decide) (fun _ => ?_) (fun zz => absurd (show (8 : Int32) = 8 from by decide) zz)
  refine r_iconst (v := 1) (q110 (i := 31) rfl) (by decide) ?_
  refine r_goto 65 (q110 (i := 32) rfl) (by decide) ?_
  refine r_istore (ls' := [(6, .int 1), (0, .ref 47), (1, .int 0), (2, .int 8), (3, .int 0), (4, .int 0), (5, .int 0)]) (q110 (i := 34) rfl) (Nat.le_of_ble_eq_true rfl) rfl ?_
  refine r_iload (q110 (i := 35) rfl) rfl ?_
  refine r_if 83 (q110 (i := 36) rfl) (by decide) (fun zz => absurd zz (show ¬ ((1 : Int32) = 0) from by decide)) (fun _ => ?_)
  refine r_aload_n (q110 (i := 37) rfl) rfl ?_
  refine r_getR (b := 48) (q110 (i := 38) rfl) rfl (by decide) (k_47 S) (fun _ _ _ => rfl) (r_47_2 S) ?_
  refine r_iload_n (q110 (i := 39) rfl) rfl ?_
  refine r_iaload (x := nI g) (q110 (i := 40) rfl) (k_48 S) (vp_in_nI (n := 0) (by decide) (by decide)) e2 ?_
  refine r_bipush (v := 120) (q110 (i := 41) rfl) (by decide) ?_
  refine r_icmp 85 (q110 (i := 42) rfl) (by decide) (fun _ => ?_) (fun zz => absurd (show ¬ nI g = 120 from neN (b := 120) (by omega) (by decide) (by omega)) zz)
  refine r_aload_n (q110 (i := 45) rfl) rfl ?_
  refine r_getR (b := 48) (q110 (i := 46) rfl) rfl (by decide) (k_47 S) (fun _ _ _ => rfl) (r_47_2 S) ?_
  refine r_iload_n (q110 (i := 47) rfl) rfl ?_
  refine r_iaload (x := nI g) (q110 (i := 48) rfl) (k_48 S) (vp_in_nI (n := 0) (by decide) (by decide)) e2 ?_
  refine r_istore (ls' := [(7, .int (nI g)), (6, .int 1), (0, .ref 47), (1, .int 0), (2, .int 8), (3, .int 0), (4, .int 0), (5, .int 0)]) (q110 (i := 49) rfl) (Nat.le_of_ble_eq_true rfl) rfl ?_
  refine r_aload_n (q110 (i := 50) rfl) rfl ?_
  refine r_getR (b := 50) (q110 (i := 51) rfl) rfl (by decide) (k_47 S) (fun _ _ _ => rfl) (r_47_4 S) ?_
  refine r_iload_n (q110 (i := 52) rfl) rfl ?_
  refine r_aaload5 (q110 (i := 53) rfl) (k_50 S) (vp_in_nI (n := 0) (by decide) (by decide)) (r_50_0 S) ?_
  refine r_iload (q110 (i := 54) rfl) rfl ?_
  refine r_iload_n (q110 (i := 55) rfl) rfl ?_
  refine r_iasN (q110 (i := 56) rfl) (k_51 S) (by omega) (by decide) ?_
  refine r_aload_n (q110 (i := 57) rfl) rfl ?_
  refine r_getR (b := 53) (q110 (i := 58) rfl) rfl (by decide) (k_47 S) (fun _ _ _ => rfl) (r_47_5 S) ?_
  refine r_iload_n (q110 (i := 59) rfl) rfl ?_
  refine r_aaload5 (q110 (i := 60) rfl) (k_53 S) (vp_in_nI (n := 0) (by decide) (by decide)) (r_53_0 S) ?_
  refine r_iload (q110 (i := 61) rfl) rfl ?_
  refine r_iload_n (q110 (i := 62) rfl) rfl ?_
  refine r_iasN (q110 (i := 63) rfl) (k_54 S) (by omega) (by decide) ?_
  refine r_aload_n (q110 (i := 64) rfl) rfl ?_
  refine r_getR (b := 56) (q110 (i := 65) rfl) rfl (by decide) (k_47 S) (fun _ _ _ => rfl) (r_47_6 S) ?_
  refine r_iload_n (q110 (i := 66) rfl) rfl ?_
  refine r_aaload5 (q110 (i := 67) rfl) (k_56 S) (vp_in_nI (n := 0) (by decide) (by decide)) (r_56_0 S) ?_
  refine r_iload (q110 (i := 68) rfl) rfl ?_
  refine r_iload (q110 (i := 69) rfl) rfl ?_
  refine r_iasN (q110 (i := 70) rfl) (k_57 S) (by omega) (by decide) ?_
  refine r_aload_n (q110 (i := 71) rfl) rfl ?_
  refine r_getR (b := 59) (q110 (i := 72) rfl) rfl (by decide) (k_47 S) (fun _ _ _ => rfl) (r_47_7 S) ?_
  refine r_iload_n (q110 (i := 73) rfl) rfl ?_
  refine r_aaload5 (q110 (i := 74) rfl) (k_59 S) (vp_in_nI (n := 0) (by decide) (by decide)) (r_59_0 S) ?_
  refine r_iload (q110 (i := 75) rfl) rfl ?_
  refine r_iload (q110 (i := 76) rfl) rfl ?_
  refine r_iasN (q110 (i := 77) rfl) (k_60 S) (by omega) (by decide) ?_
  refine r_aload_n (q110 (i := 78) rfl) rfl ?_
  refine r_getR (b := 48) (q110 (i := 79) rfl) rfl (by decide) (k_47 S) (fun _ _ _ => rfl) (r_47_2 S) ?_
  refine r_iload_n (q110 (i := 80) rfl) rfl ?_
  refine r_dup2 (q110 (i := 81) rfl) rfl rfl ?_
  refine r_iaload (x := nI g) (q110 (i := 82) rfl) (k_48 S) (vp_in_nI (n := 0) (by decide) (by decide)) e2 ?_
  refine r_iconst (v := 1) (q110 (i := 83) rfl) (by decide) ?_
  refine r_iadd (q110 (i := 84) rfl) ?_
  rw [show ((nI g) + 1 : Int32) = nI (g + 1) from nI_1 _]
  refine r_iastore (q110 (i := 85) rfl) (k_48 S) (vp_in_nI (n := 0) (by decide) (by decide)) ?_
  show Wp _ _ _ _ _ _ (sI (sI (sI (sI (sI h 51 g 8) 54 g 0) 57 g 0) 60 g 0) 48 0 (nI (g + 1))) _ _
  refine r_aload_n (q110 (i := 86) rfl) rfl ?_
  refine r_cV (d := _) (q110 (i := 87) rfl) rfl rfl rfl (k_47 S) (Nat.le_of_ble_eq_true rfl) (Nat.zero_le _) (Nat.zero_le _) (sp_chg (d := d) (h := sI (sI (sI (sI (sI h 51 g 8) 54 g 0) 57 g 0) 60 g 0) 48 0 (nI (g + 1))) (S.to rfl)) ?_
  show Wp _ _ _ 149 [(7, .int (nI g)), (6, .int 1), (0, .ref 47), (1, .int 0), (2, .int 8), (3, .int 0), (4, .int 0), (5, .int 0)] [] (chg (sI (sI (sI (sI (sI h 51 g 8) 54 g 0) 57 g 0) 60 g 0) 48 0 (nI (g + 1)))) _ _
  refine r_aload_n (q110 (i := 88) rfl) rfl ?_
  refine r_getI (x := nI n) (q110 (i := 89) rfl) rfl (by decide) (k_47 S) (fun _ _ _ => rfl) e1 ?_
  refine r_iload (q110 (i := 90) rfl) rfl ?_
  refine r_iadd (q110 (i := 91) rfl) ?_
  rw [show ((nI n) + (nI g) : Int32) = nI (n + g) from nI_add _ _]
  exact r_iret (q110 (i := 92) rfl) rfl hQ
set_option maxHeartbeats 2000000 in
set_option maxRecDepth 10000 in
theorem sp_mg0_0 {d : Nat} {h : hp} (S : Sh h) {n g : Nat} (e1 : hI h 47 1 = nI n) (e2 : hI h 48 0 = nI g) (hg : g < 120) {a b : Int32} (ha : pl a < nI (n + g)) (hb : pl b < nI (n + g)) : Run (d + 1 + 1) 110 [.ref 47, .int 0, .int 0, .int a, .int b, .int 0] h 0 0 (some (.int (nI (n + g)))) (chg (sI (sI (sI (sI (sI h 51 g 0) 54 g a) 57 g b) 60 g 0) 48 0 (nI (g + 1)))) := by
  have Ra := sp_mhas0 (d := d) S e1 e2 a
  have Rb := sp_mhas0 (d := d) S e1 e2 b
  rw [hasS_1 ha] at Ra
  rw [hasS_1 hb] at Rb
  refine Run.of (Nat.le_of_ble_eq_true rfl) (fun Q hQ => ?_)
  show Wp (Ex (d + 1)) 110 Q 0 [(0, .ref 47), (1, .int 0), (2, .int 0), (3, .int a), (4, .int b), (5, .int 0)] [] h 0 0
  refine r_iload_n (q110 (i := 0) rfl) rfl ?_
  refine r_cS (d := _) (q110 (i := 1) rfl) rfl (Nat.le_of_ble_eq_true rfl) rfl rfl (Nat.le_of_ble_eq_true rfl) (Nat.zero_le _) (Nat.zero_le _) (sp_isC0 (d := d)) ?_
  show Wp _ _ _ 4 [(0, .ref 47), (1, .int 0), (2, .int 0), (3, .int a), (4, .int b), (5, .int 0)] [.int 1] h _ _
  refine r_if 17 (q110 (i := 2) rfl) (by decide) (fun zz => absurd zz (show ¬ ((1 : Int32) = 0) from by decide)) (fun _ => ?_)
  refine r_iload_n (q110 (i := 3) rfl) rfl ?_
  refine r_if 17 (q110 (i := 4) rfl) (by decide) (fun zz => absurd zz (show ¬ ((0 : Int32) < 0) from by decide)) (fun _ => ?_)
  refine r_iload_n (q110 (i := 5) rfl) rfl ?_
  refine r_bipush (v := 8) (q110 (i := 6) rfl) (by decide) ?_
  refine r_icmp 19 (q110 (i := 7) rfl) (by decide) (fun _ => ?_) (fun zz => absurd (show (0 : Int32) ≤ 8 from by decide) zz)
  refine r_iload_n (q110 (i := 10) rfl) rfl ?_
  refine r_bipush (v := 8) (q110 (i := 11) rfl) (by decide) ?_
  refine r_icmp 60 (q110 (i := 12) rfl) (by decide) (fun zz => absurd zz (show ¬ ((0 : Int32) = 8) from by decide)) (fun _ => ?_)
  refine r_aload_n (q110 (i := 13) rfl) rfl ?_
  refine r_iload_n (q110 (i := 14) rfl) rfl ?_
  refine r_iload_n (q110 (i := 15) rfl) rfl ?_
  refine r_cV (d := _) (q110 (i := 16) rfl) rfl rfl rfl (k_47 S) (Nat.le_of_ble_eq_true rfl) (Nat.zero_le _) (Nat.zero_le _) Ra ?_
  show Wp _ _ _ 31 [(0, .ref 47), (1, .int 0), (2, .int 0), (3, .int a), (4, .int b), (5, .int 0)] [.int 1] h _ _
  refine r_if 64 (q110 (i := 17) rfl) (by decide) (fun zz => absurd zz (show ¬ ((1 : Int32) = 0) from by decide)) (fun _ => ?_)
  refine r_aload_n (q110 (i := 18) rfl) rfl ?_
  refine r_iload_n (q110 (i := 19) rfl) rfl ?_
  refine r_iload (q110 (i := 20) rfl) rfl ?_
  refine r_cV (d := _) (q110 (i := 21) rfl) rfl rfl rfl (k_47 S) (Nat.le_of_ble_eq_true rfl) (Nat.zero_le _) (Nat.zero_le _) Rb ?_
  show Wp _ _ _ 41 [(0, .ref 47), (1, .int 0), (2, .int 0), (3, .int a), (4, .int b), (5, .int 0)] [.int 1] h _ _
  refine r_if 64 (q110 (i := 22) rfl) (by decide) (fun zz => absurd zz (show ¬ ((1 : Int32) = 0) from by decide)) (fun _ => ?_)
  refine r_iload_n (q110 (i := 23) rfl) rfl ?_
  refine r_bipush (v := 6) (q110 (i := 24) rfl) (by decide) ?_
  refine r_icmp 60 (q110 (i := 25) rfl) (by decide) (fun _ => ?_) (fun zz => absurd (show (0 : Int32) < 6 from by decide) zz)
  refine r_iconst (v := 1) (q110 (i := 31) rfl) (by decide) ?_
  refine r_goto 65 (q110 (i := 32) rfl) (by decide) ?_
  refine r_istore (ls' := [(6, .int 1), (0, .ref 47), (1, .int 0), (2, .int 0), (3, .int a), (4, .int b), (5, .int 0)]) (q110 (i := 34) rfl) (Nat.le_of_ble_eq_true rfl) rfl ?_
  refine r_iload (q110 (i := 35) rfl) rfl ?_
  refine r_if 83 (q110 (i := 36) rfl) (by decide) (fun zz => absurd zz (show ¬ ((1 : Int32) = 0) from by decide)) (fun _ => ?_)
  refine r_aload_n (q110 (i := 37) rfl) rfl ?_
  refine r_getR (b := 48) (q110 (i := 38) rfl) rfl (by decide) (k_47 S) (fun _ _ _ => rfl) (r_47_2 S) ?_
  refine r_iload_n (q110 (i := 39) rfl) rfl ?_
  refine r_iaload (x := nI g) (q110 (i := 40) rfl) (k_48 S) (vp_in_nI (n := 0) (by decide) (by decide)) e2 ?_
  refine r_bipush (v := 120) (q110 (i := 41) rfl) (by decide) ?_
  refine r_icmp 85 (q110 (i := 42) rfl) (by decide) (fun _ => ?_) (fun zz => absurd (show ¬ nI g = 120 from neN (b := 120) (by omega) (by decide) (by omega)) zz)
  refine r_aload_n (q110 (i := 45) rfl) rfl ?_
  refine r_getR (b := 48) (q110 (i := 46) rfl) rfl (by decide) (k_47 S) (fun _ _ _ => rfl) (r_47_2 S) ?_
  refine r_iload_n (q110 (i := 47) rfl) rfl ?_
  refine r_iaload (x := nI g) (q110 (i := 48) rfl) (k_48 S) (vp_in_nI (n := 0) (by decide) (by decide)) e2 ?_
  refine r_istore (ls' := [(7, .int (nI g)), (6, .int 1), (0, .ref 47), (1, .int 0), (2, .int 0), (3, .int a), (4, .int b), (5, .int 0)]) (q110 (i := 49) rfl) (Nat.le_of_ble_eq_true rfl) rfl ?_
  refine r_aload_n (q110 (i := 50) rfl) rfl ?_
  refine r_getR (b := 50) (q110 (i := 51) rfl) rfl (by decide) (k_47 S) (fun _ _ _ => rfl) (r_47_4 S) ?_
  refine r_iload_n (q110 (i := 52) rfl) rfl ?_
  refine r_aaload5 (q110 (i := 53) rfl) (k_50 S) (vp_in_nI (n := 0) (by decide) (by decide)) (r_50_0 S) ?_
  refine r_iload (q110 (i := 54) rfl) rfl ?_
  refine r_iload_n (q110 (i := 55) rfl) rfl ?_
  refine r_iasN (q110 (i := 56) rfl) (k_51 S) (by omega) (by decide) ?_
  refine r_aload_n (q110 (i := 57) rfl) rfl ?_
  refine r_getR (b := 53) (q110 (i := 58) rfl) rfl (by decide) (k_47 S) (fun _ _ _ => rfl) (r_47_5 S) ?_
  refine r_iload_n (q110 (i := 59) rfl) rfl ?_
  refine r_aaload5 (q110 (i := 60) rfl) (k_53 S) (vp_in_nI (n := 0) (by decide) (by decide)) (r_53_0 S) ?_
  refine r_iload (q110 (i := 61) rfl) rfl ?_
  refine r_iload_n (q110 (i := 62) rfl) rfl ?_
  refine r_iasN (q110 (i := 63) rfl) (k_54 S) (by omega) (by decide) ?_
  refine r_aload_n (q110 (i := 64) rfl) rfl ?_
  refine r_getR (b := 56) (q110 (i := 65) rfl) rfl (by decide) (k_47 S) (fun _ _ _ => rfl) (r_47_6 S) ?_
  refine r_iload_n (q110 (i := 66) rfl) rfl ?_
  refine r_aaload5 (q110 (i := 67) rfl) (k_56 S) (vp_in_nI (n := 0) (by decide) (by decide)) (r_56_0 S) ?_
  refine r_iload (q110 (i := 68) rfl) rfl ?_
  refine r_iload (q110 (i := 69) rfl) rfl ?_
  refine r_iasN (q110 (i := 70) rfl) (k_57 S) (by omega) (by decide) ?_
  refine r_aload_n (q110 (i := 71) rfl) rfl ?_
  refine r_getR (b := 59) (q110 (i := 72) rfl) rfl (by decide) (k_47 S) (fun _ _ _ => rfl) (r_47_7 S) ?_
  refine r_iload_n (q110 (i := 73) rfl) rfl ?_
  refine r_aaload5 (q110 (i := 74) rfl) (k_59 S) (vp_in_nI (n := 0) (by decide) (by decide)) (r_59_0 S) ?_
  refine r_iload (q110 (i := 75) rfl) rfl ?_
  refine r_iload (q110 (i := 76) rfl) rfl ?_
  refine r_iasN (q110 (i := 77) rfl) (k_60 S) (by omega) (by decide) ?_
  refine r_aload_n (q110 (i := 78) rfl) rfl ?_
  refine r_getR (b := 48) (q110 (i := 79) rfl) rfl (by decide) (k_47 S) (fun _ _ _ => rfl) (r_47_2 S) ?_
  refine r_iload_n (q110 (i := 80) rfl) rfl ?_
  refine r_dup2 (q110 (i := 81) rfl) rfl rfl ?_
  refine r_iaload (x := nI g) (q110 (i := 82) rfl) (k_48 S) (vp_in_nI (n := 0) (by decide) (by decide)) e2 ?_
  refine r_iconst (v := 1) (q110 (i := 83) rfl) (by decide) ?_
  refine r_iadd (q110 (i := 84) rfl) ?_
  rw [show ((nI g) + 1 : Int32) = nI (g + 1) from nI_1 _]
  refine r_iastore (q110 (i := 85) rfl) (k_48 S) (vp_in_nI (n := 0) (by decide) (by decide)) ?_
  show Wp _ _ _ _ _ _ (sI (sI (sI (sI (sI h 51 g 0) 54 g a) 57 g b) 60 g 0) 48 0 (nI (g + 1))) _ _
  refine r_aload_n (q110 (i := 86) rfl) rfl ?_
  refine r_cV (d := _) (q110 (i := 87) rfl) rfl rfl rfl (k_47 S) (Nat.le_of_ble_eq_true rfl) (Nat.zero_le _) (Nat.zero_le _) (sp_chg (d := d) (h := sI (sI (sI (sI (sI h 51 g 0) 54 g a) 57 g b) 60 g 0) 48 0 (nI (g + 1))) (S.to rfl)) ?_
  show Wp _ _ _ 149 [(7, .int (nI g)), (6, .int 1), (0, .ref 47), (1, .int 0), (2, .int 0), (3, .int a), (4, .int b), (5, .int 0)] [] (chg (sI (sI (sI (sI (sI h 51 g 0) 54 g a) 57 g b) 60 g 0) 48 0 (nI (g + 1)))) _ _
  refine r_aload_n (q110 (i := 88) rfl) rfl ?_
  refine r_getI (x := nI n) (q110 (i := 89) rfl) rfl (by decide) (k_47 S) (fun _ _ _ => rfl) e1 ?_
  refine r_iload (q110 (i := 90) rfl) rfl ?_
  refine r_iadd (q110 (i := 91) rfl) ?_
  rw [show ((nI n) + (nI g) : Int32) = nI (n + g) from nI_add _ _]
  exact r_iret (q110 (i := 92) rfl) rfl hQ
set_option maxHeartbeats 2000000 in
set_option maxRecDepth 10000 in
theorem sp_mo0 {d : Nat} {h : hp} (S : Sh h) {n g k : Nat} (e1 : hI h 47 1 = nI n) (e2 : hI h 48 0 = nI g) (e3 : hI h 49 0 = nI k) (hk : k < 10) {s : Int32} (hs : pl s < nI (n + g)) : Run (d + 1 + 1) 111 [.ref 47, .int 0, .int s] h 0 0 (some (.int (nI k))) (chg (sI (sI h 63 k s) 49 0 (nI (k + 1)))) := by
  have Ra := sp_mhas0 (d := d) S e1 e2 s
  rw [hasS_1 hs] at Ra
  refine Run.of (Nat.le_of_ble_eq_true rfl) (fun Q hQ => ?_)
  show Wp (Ex (d + 1)) 111 Q 0 [(0, .ref 47), (1, .int 0), (2, .int s)] [] h 0 0
  refine r_iload_n (q111 (i := 0) rfl) rfl ?_
  refine r_cS (d := _) (q111 (i := 1) rfl) rfl (Nat.le_of_ble_eq_true rfl) rfl rfl (Nat.le_of_ble_eq_true rfl) (Nat.zero_le _) (Nat.zero_le _) (sp_isC0 (d := d)) ?_
  show Wp _ _ _ 4 [(0, .ref 47), (1, .int 0), (2, .int s)] [.int 1] h _ _
  refine r_if 27 (q111 (i := 2) rfl) (by decide) (fun zz => absurd zz (show ¬ ((1 : Int32) = 0) from by decide)) (fun _ => ?_)
  refine r_aload_n (q111 (i := 3) rfl) rfl ?_
  refine r_iload_n (q111 (i := 4) rfl) rfl ?_
  refine r_iload_n (q111 (i := 5) rfl) rfl ?_
  refine r_cV (d := _) (q111 (i := 6) rfl) rfl rfl rfl (k_47 S) (Nat.le_of_ble_eq_true rfl) (Nat.zero_le _) (Nat.zero_le _) Ra ?_
  show Wp _ _ _ 13 [(0, .ref 47), (1, .int 0), (2, .int s)] [.int 1] h _ _
  refine r_if 27 (q111 (i := 7) rfl) (by decide) (fun zz => absurd zz (show ¬ ((1 : Int32) = 0) from by decide)) (fun _ => ?_)
  refine r_aload_n (q111 (i := 8) rfl) rfl ?_
  refine r_getR (b := 49) (q111 (i := 9) rfl) rfl (by decide) (k_47 S) (fun _ _ _ => rfl) (r_47_3 S) ?_
  refine r_iload_n (q111 (i := 10) rfl) rfl ?_
  refine r_iaload (x := nI k) (q111 (i := 11) rfl) (k_49 S) (vp_in_nI (n := 0) (by decide) (by decide)) e3 ?_
  refine r_bipush (v := 10) (q111 (i := 12) rfl) (by decide) ?_
  refine r_icmp 29 (q111 (i := 13) rfl) (by decide) (fun _ => ?_) (fun zz => absurd (show ¬ nI k = 10 from neN (b := 10) (by omega) (by decide) (by omega)) zz)
  refine r_aload_n (q111 (i := 16) rfl) rfl ?_
  refine r_getR (b := 62) (q111 (i := 17) rfl) rfl (by decide) (k_47 S) (fun _ _ _ => rfl) (r_47_8 S) ?_
  refine r_iload_n (q111 (i := 18) rfl) rfl ?_
  refine r_aaload5 (q111 (i := 19) rfl) (k_62 S) (vp_in_nI (n := 0) (by decide) (by decide)) (r_62_0 S) ?_
  refine r_aload_n (q111 (i := 20) rfl) rfl ?_
  refine r_getR (b := 49) (q111 (i := 21) rfl) rfl (by decide) (k_47 S) (fun _ _ _ => rfl) (r_47_3 S) ?_
  refine r_iload_n (q111 (i := 22) rfl) rfl ?_
  refine r_iaload (x := nI k) (q111 (i := 23) rfl) (k_49 S) (vp_in_nI (n := 0) (by decide) (by decide)) e3 ?_
  refine r_iload_n (q111 (i := 24) rfl) rfl ?_
  refine r_iasN (q111 (i := 25) rfl) (k_63 S) (by omega) (by decide) ?_
  refine r_aload_n (q111 (i := 26) rfl) rfl ?_
  refine r_getR (b := 49) (q111 (i := 27) rfl) rfl (by decide) (k_47 S) (fun _ _ _ => rfl) (r_47_3 S) ?_
  refine r_iload_n (q111 (i := 28) rfl) rfl ?_
  refine r_dup2 (q111 (i := 29) rfl) rfl rfl ?_
  refine r_iaload (x := nI k) (q111 (i := 30) rfl) (k_49 S) (vp_in_nI (n := 0) (by decide) (by decide)) e3 ?_
  refine r_iconst (v := 1) (q111 (i := 31) rfl) (by decide) ?_
  refine r_iadd (q111 (i := 32) rfl) ?_
  rw [show ((nI k) + 1 : Int32) = nI (k + 1) from nI_1 _]
  refine r_iastore (q111 (i := 33) rfl) (k_49 S) (vp_in_nI (n := 0) (by decide) (by decide)) ?_
  show Wp _ _ _ _ _ _ (sI (sI h 63 k s) 49 0 (nI (k + 1))) _ _
  refine r_aload_n (q111 (i := 34) rfl) rfl ?_
  refine r_cV (d := _) (q111 (i := 35) rfl) rfl rfl rfl (k_47 S) (Nat.le_of_ble_eq_true rfl) (Nat.zero_le _) (Nat.zero_le _) (sp_chg (d := d) (h := sI (sI h 63 k s) 49 0 (nI (k + 1))) (S.to rfl)) ?_
  show Wp _ _ _ 57 [(0, .ref 47), (1, .int 0), (2, .int s)] [] (chg (sI (sI h 63 k s) 49 0 (nI (k + 1)))) _ _
  refine r_aload_n (q111 (i := 36) rfl) rfl ?_
  refine r_getR (b := 49) (q111 (i := 37) rfl) rfl (by decide) (k_47 S) (fun _ _ _ => rfl) (r_47_3 S) ?_
  refine r_iload_n (q111 (i := 38) rfl) rfl ?_
  refine r_iaload (x := nI (k + 1)) (q111 (i := 39) rfl) (k_49 S) (vp_in_nI (n := 0) (by decide) (by decide)) rfl ?_
  refine r_iconst (v := 1) (q111 (i := 40) rfl) (by decide) ?_
  refine r_isub (q111 (i := 41) rfl) ?_
  rw [show ((nI (k + 1)) - 1 : Int32) = nI k from nI_pred _]
  exact r_iret (q111 (i := 42) rfl) rfl hQ
set_option maxHeartbeats 2000000 in
set_option maxRecDepth 10000 in
theorem sp_mg1_8 {d : Nat} {h : hp} (S : Sh h) {n g : Nat} (e1 : hI h 47 1 = nI n) (e2 : hI h 48 1 = nI g) (hg : g < 120) : Run (d + 1 + 1) 110 [.ref 47, .int 1, .int 8, .int 0, .int 0, .int 0] h 0 0 (some (.int (nI (n + g)))) (chg (sI (sI (sI (sI (sI h 52 g 8) 55 g 0) 58 g 0) 61 g 0) 48 1 (nI (g + 1)))) := by
  refine Run.of (Nat.le_of_ble_eq_true rfl) (fun Q hQ => ?_)
  show Wp (Ex (d + 1)) 110 Q 0 [(0, .ref 47), (1, .int 1), (2, .int 8), (3, .int 0), (4, .int 0), (5, .int 0)] [] h 0 0
  refine r_iload_n (q110 (i := 0) rfl) rfl ?_
  refine r_cS (d := _) (q110 (i := 1) rfl) rfl (Nat.le_of_ble_eq_true rfl) rfl rfl (Nat.le_of_ble_eq_true rfl) (Nat.zero_le _) (Nat.zero_le _) (sp_isC1 (d := d)) ?_
  show Wp _ _ _ 4 [(0, .ref 47), (1, .int 1), (2, .int 8), (3, .int 0), (4, .int 0), (5, .int 0)] [.int 1] h _ _
  refine r_if 17 (q110 (i := 2) rfl) (by decide) (fun zz => absurd zz (show ¬ ((1 : Int32) = 0) from by decide)) (fun _ => ?_)
  refine r_iload_n (q110 (i := 3) rfl) rfl ?_
  refine r_if 17 (q110 (i := 4) rfl) (by decide) (fun zz => absurd zz (show ¬ ((8 : Int32) < 0) from by decide)) (fun _ => ?_)
  refine r_iload_n (q110 (i := 5) rfl) rfl ?_
  refine r_bipush (v := 8) (q110 (i := 6) rfl) (by decide) ?_
  refine r_icmp 19 (q110 (i := 7) rfl) (by decide) (fun _ => ?_) (fun zz => absurd (show (8 : Int32) ≤ 8 from by decide) zz)
  refine r_iload_n (q110 (i := 10) rfl) rfl ?_
  refine r_bipush (v := 8) (q110 (i := 11) rfl) (by decide) ?_
  refine r_icmp 60 (q110 (i := 12) rfl) (by decide) (fun _ => ?_) (fun zz => absurd (show (8 : Int32) = 8 from by decide) zz)
  refine r_iconst (v := 1) (q110 (i := 31) rfl) (by decide) ?_
  refine r_goto 65 (q110 (i := 32) rfl) (by decide) ?_
  refine r_istore (ls' := [(6, .int 1), (0, .ref 47), (1, .int 1), (2, .int 8), (3, .int 0), (4, .int 0), (5, .int 0)]) (q110 (i := 34) rfl) (Nat.le_of_ble_eq_true rfl) rfl ?_
  refine r_iload (q110 (i := 35) rfl) rfl ?_
  refine r_if 83 (q110 (i := 36) rfl) (by decide) (fun zz => absurd zz (show ¬ ((1 : Int32) = 0) from by decide)) (fun _ => ?_)
  refine r_aload_n (q110 (i := 37) rfl) rfl ?_
  refine r_getR (b := 48) (q110 (i := 38) rfl) rfl (by decide) (k_47 S) (fun _ _ _ => rfl) (r_47_2 S) ?_
  refine r_iload_n (q110 (i := 39) rfl) rfl ?_
  refine r_iaload (x := nI g) (q110 (i := 40) rfl) (k_48 S) (vp_in_nI (n := 1) (by decide) (by decide)) e2 ?_
  refine r_bipush (v := 120) (q110 (i := 41) rfl) (by decide) ?_
  refine r_icmp 85 (q110 (i := 42) rfl) (by decide) (fun _ => ?_) (fun zz => absurd (show ¬ nI g = 120 from neN (b := 120) (by omega) (by decide) (by omega)) zz)
  refine r_aload_n (q110 (i := 45) rfl) rfl ?_
  refine r_getR (b := 48) (q110 (i := 46) rfl) rfl (by decide) (k_47 S) (fun _ _ _ => rfl) (r_47_2 S) ?_
  refine r_iload_n (q110 (i := 47) rfl) rfl ?_
  refine r_iaload (x := nI g) (q110 (i := 48) rfl) (k_48 S) (vp_in_nI (n := 1) (by decide) (by decide)) e2 ?_
  refine r_istore (ls' := [(7, .int (nI g)), (6, .int 1), (0, .ref 47), (1, .int 1), (2, .int 8), (3, .int 0), (4, .int 0), (5, .int 0)]) (q110 (i := 49) rfl) (Nat.le_of_ble_eq_true rfl) rfl ?_
  refine r_aload_n (q110 (i := 50) rfl) rfl ?_
  refine r_getR (b := 50) (q110 (i := 51) rfl) rfl (by decide) (k_47 S) (fun _ _ _ => rfl) (r_47_4 S) ?_
  refine r_iload_n (q110 (i := 52) rfl) rfl ?_
  refine r_aaload5 (q110 (i := 53) rfl) (k_50 S) (vp_in_nI (n := 1) (by decide) (by decide)) (r_50_1 S) ?_
  refine r_iload (q110 (i := 54) rfl) rfl ?_
  refine r_iload_n (q110 (i := 55) rfl) rfl ?_
  refine r_iasN (q110 (i := 56) rfl) (k_52 S) (by omega) (by decide) ?_
  refine r_aload_n (q110 (i := 57) rfl) rfl ?_
  refine r_getR (b := 53) (q110 (i := 58) rfl) rfl (by decide) (k_47 S) (fun _ _ _ => rfl) (r_47_5 S) ?_
  refine r_iload_n (q110 (i := 59) rfl) rfl ?_
  refine r_aaload5 (q110 (i := 60) rfl) (k_53 S) (vp_in_nI (n := 1) (by decide) (by decide)) (r_53_1 S) ?_
  refine r_iload (q110 (i := 61) rfl) rfl ?_
  refine r_iload_n (q110 (i := 62) rfl) rfl ?_
  refine r_iasN (q110 (i := 63) rfl) (k_55 S) (by omega) (by decide) ?_
  refine r_aload_n (q110 (i := 64) rfl) rfl ?_
  refine r_getR (b := 56) (q110 (i := 65) rfl) rfl (by decide) (k_47 S) (fun _ _ _ => rfl) (r_47_6 S) ?_
  refine r_iload_n (q110 (i := 66) rfl) rfl ?_
  refine r_aaload5 (q110 (i := 67) rfl) (k_56 S) (vp_in_nI (n := 1) (by decide) (by decide)) (r_56_1 S) ?_
  refine r_iload (q110 (i := 68) rfl) rfl ?_
  refine r_iload (q110 (i := 69) rfl) rfl ?_
  refine r_iasN (q110 (i := 70) rfl) (k_58 S) (by omega) (by decide) ?_
  refine r_aload_n (q110 (i := 71) rfl) rfl ?_
  refine r_getR (b := 59) (q110 (i := 72) rfl) rfl (by decide) (k_47 S) (fun _ _ _ => rfl) (r_47_7 S) ?_
  refine r_iload_n (q110 (i := 73) rfl) rfl ?_
  refine r_aaload5 (q110 (i := 74) rfl) (k_59 S) (vp_in_nI (n := 1) (by decide) (by decide)) (r_59_1 S) ?_
  refine r_iload (q110 (i := 75) rfl) rfl ?_
  refine r_iload (q110 (i := 76) rfl) rfl ?_
  refine r_iasN (q110 (i := 77) rfl) (k_61 S) (by omega) (by decide) ?_
  refine r_aload_n (q110 (i := 78) rfl) rfl ?_
  refine r_getR (b := 48) (q110 (i := 79) rfl) rfl (by decide) (k_47 S) (fun _ _ _ => rfl) (r_47_2 S) ?_
  refine r_iload_n (q110 (i := 80) rfl) rfl ?_
  refine r_dup2 (q110 (i := 81) rfl) rfl rfl ?_
  refine r_iaload (x := nI g) (q110 (i := 82) rfl) (k_48 S) (vp_in_nI (n := 1) (by decide) (by decide)) e2 ?_
  refine r_iconst (v := 1) (q110 (i := 83) rfl) (by decide) ?_
  refine r_iadd (q110 (i := 84) rfl) ?_
  rw [show ((nI g) + 1 : Int32) = nI (g + 1) from nI_1 _]
  refine r_iastore (q110 (i := 85) rfl) (k_48 S) (vp_in_nI (n := 1) (by decide) (by decide)) ?_
  show Wp _ _ _ _ _ _ (sI (sI (sI (sI (sI h 52 g 8) 55 g 0) 58 g 0) 61 g 0) 48 1 (nI (g + 1))) _ _
  refine r_aload_n (q110 (i := 86) rfl) rfl ?_
  refine r_cV (d := _) (q110 (i := 87) rfl) rfl rfl rfl (k_47 S) (Nat.le_of_ble_eq_true rfl) (Nat.zero_le _) (Nat.zero_le _) (sp_chg (d := d) (h := sI (sI (sI (sI (sI h 52 g 8) 55 g 0) 58 g 0) 61 g 0) 48 1 (nI (g + 1))) (S.to rfl)) ?_
  show Wp _ _ _ 149 [(7, .int (nI g)), (6, .int 1), (0, .ref 47), (1, .int 1), (2, .int 8), (3, .int 0), (4, .int 0), (5, .int 0)] [] (chg (sI (sI (sI (sI (sI h 52 g 8) 55 g 0) 58 g 0) 61 g 0) 48 1 (nI (g + 1)))) _ _
  refine r_aload_n (q110 (i := 88) rfl) rfl ?_
  refine r_getI (x := nI n) (q110 (i := 89) rfl) rfl (by decide) (k_47 S) (fun _ _ _ => rfl) e1 ?_
  refine r_iload (q110 (i := 90) rfl) rfl ?_
  refine r_iadd (q110 (i := 91) rfl) ?_
  rw [show ((nI n) + (nI g) : Int32) = nI (n + g) from nI_add _ _]
  exact r_iret (q110 (i := 92) rfl) rfl hQ
set_option maxHeartbeats 2000000 in
set_option maxRecDepth 10000 in
theorem sp_mg1_0 {d : Nat} {h : hp} (S : Sh h) {n g : Nat} (e1 : hI h 47 1 = nI n) (e2 : hI h 48 1 = nI g) (hg : g < 120) {a b : Int32} (ha : pl a < nI (n + g)) (hb : pl b < nI (n + g)) : Run (d + 1 + 1) 110 [.ref 47, .int 1, .int 0, .int a, .int b, .int 0] h 0 0 (some (.int (nI (n + g)))) (chg (sI (sI (sI (sI (sI h 52 g 0) 55 g a) 58 g b) 61 g 0) 48 1 (nI (g + 1)))) := by
  have Ra := sp_mhas1 (d := d) S e1 e2 a
  have Rb := sp_mhas1 (d := d) S e1 e2 b
  rw [hasS_1 ha] at Ra
  rw [hasS_1 hb] at Rb
  refine Run.of (Nat.le_of_ble_eq_true rfl) (fun Q hQ => ?_)
  show Wp (Ex (d + 1)) 110 Q 0 [(0, .ref 47), (1, .int 1), (2, .int 0), (3, .int a), (4, .int b), (5, .int 0)] [] h 0 0
  refine r_iload_n (q110 (i := 0) rfl) rfl ?_
  refine r_cS (d := _) (q110 (i := 1) rfl) rfl (Nat.le_of_ble_eq_true rfl) rfl rfl (Nat.le_of_ble_eq_true rfl) (Nat.zero_le _) (Nat.zero_le _) (sp_isC1 (d := d)) ?_
  show Wp _ _ _ 4 [(0, .ref 47), (1, .int 1), (2, .int 0), (3, .int a), (4, .int b), (5, .int 0)] [.int 1] h _ _
  refine r_if 17 (q110 (i := 2) rfl) (by decide) (fun zz => absurd zz (show ¬ ((1 : Int32) = 0) from by decide)) (fun _ => ?_)
  refine r_iload_n (q110 (i := 3) rfl) rfl ?_
  refine r_if 17 (q110 (i := 4) rfl) (by decide) (fun zz => absurd zz (show ¬ ((0 : Int32) < 0) from by decide)) (fun _ => ?_)
  refine r_iload_n (q110 (i := 5) rfl) rfl ?_
  refine r_bipush (v := 8) (q110 (i := 6) rfl) (by decide) ?_
  refine r_icmp 19 (q110 (i := 7) rfl) (by decide) (fun _ => ?_) (fun zz => absurd (show (0 : Int32) ≤ 8 from by decide) zz)
  refine r_iload_n (q110 (i := 10) rfl) rfl ?_
  refine r_bipush (v := 8) (q110 (i := 11) rfl) (by decide) ?_
  refine r_icmp 60 (q110 (i := 12) rfl) (by decide) (fun zz => absurd zz (show ¬ ((0 : Int32) = 8) from by decide)) (fun _ => ?_)
  refine r_aload_n (q110 (i := 13) rfl) rfl ?_
  refine r_iload_n (q110 (i := 14) rfl) rfl ?_
  refine r_iload_n (q110 (i := 15) rfl) rfl ?_
  refine r_cV (d := _) (q110 (i := 16) rfl) rfl rfl rfl (k_47 S) (Nat.le_of_ble_eq_true rfl) (Nat.zero_le _) (Nat.zero_le _) Ra ?_
  show Wp _ _ _ 31 [(0, .ref 47), (1, .int 1), (2, .int 0), (3, .int a), (4, .int b), (5, .int 0)] [.int 1] h _ _
  refine r_if 64 (q110 (i := 17) rfl) (by decide) (fun zz => absurd zz (show ¬ ((1 : Int32) = 0) from by decide)) (fun _ => ?_)
  refine r_aload_n (q110 (i := 18) rfl) rfl ?_
  refine r_iload_n (q110 (i := 19) rfl) rfl ?_
  refine r_iload (q110 (i := 20) rfl) rfl ?_
  refine r_cV (d := _) (q110 (i := 21) rfl) rfl rfl rfl (k_47 S) (Nat.le_of_ble_eq_true rfl) (Nat.zero_le _) (Nat.zero_le _) Rb ?_
  show Wp _ _ _ 41 [(0, .ref 47), (1, .int 1), (2, .int 0), (3, .int a), (4, .int b), (5, .int 0)] [.int 1] h _ _
  refine r_if 64 (q110 (i := 22) rfl) (by decide) (fun zz => absurd zz (show ¬ ((1 : Int32) = 0) from by decide)) (fun _ => ?_)
  refine r_iload_n (q110 (i := 23) rfl) rfl ?_
  refine r_bipush (v := 6) (q110 (i := 24) rfl) (by decide) ?_
  refine r_icmp 60 (q110 (i := 25) rfl) (by decide) (fun _ => ?_) (fun zz => absurd (show (0 : Int32) < 6 from by decide) zz)
  refine r_iconst (v := 1) (q110 (i := 31) rfl) (by decide) ?_
  refine r_goto 65 (q110 (i := 32) rfl) (by decide) ?_
  refine r_istore (ls' := [(6, .int 1), (0, .ref 47), (1, .int 1), (2, .int 0), (3, .int a), (4, .int b), (5, .int 0)]) (q110 (i := 34) rfl) (Nat.le_of_ble_eq_true rfl) rfl ?_
  refine r_iload (q110 (i := 35) rfl) rfl ?_
  refine r_if 83 (q110 (i := 36) rfl) (by decide) (fun zz => absurd zz (show ¬ ((1 : Int32) = 0) from by decide)) (fun _ => ?_)
  refine r_aload_n (q110 (i := 37) rfl) rfl ?_
  refine r_getR (b := 48) (q110 (i := 38) rfl) rfl (by decide) (k_47 S) (fun _ _ _ => rfl) (r_47_2 S) ?_
  refine r_iload_n (q110 (i := 39) rfl) rfl ?_
  refine r_iaload (x := nI g) (q110 (i := 40) rfl) (k_48 S) (vp_in_nI (n := 1) (by decide) (by decide)) e2 ?_
  refine r_bipush (v := 120) (q110 (i := 41) rfl) (by decide) ?_
  refine r_icmp 85 (q110 (i := 42) rfl) (by decide) (fun _ => ?_) (fun zz => absurd (show ¬ nI g = 120 from neN (b := 120) (by omega) (by decide) (by omega)) zz)
  refine r_aload_n (q110 (i := 45) rfl) rfl ?_
  refine r_getR (b := 48) (q110 (i := 46) rfl) rfl (by decide) (k_47 S) (fun _ _ _ => rfl) (r_47_2 S) ?_
  refine r_iload_n (q110 (i := 47) rfl) rfl ?_
  refine r_iaload (x := nI g) (q110 (i := 48) rfl) (k_48 S) (vp_in_nI (n := 1) (by decide) (by decide)) e2 ?_
  refine r_istore (ls' := [(7, .int (nI g)), (6, .int 1), (0, .ref 47), (1, .int 1), (2, .int 0), (3, .int a), (4, .int b), (5, .int 0)]) (q110 (i := 49) rfl) (Nat.le_of_ble_eq_true rfl) rfl ?_
  refine r_aload_n (q110 (i := 50) rfl) rfl ?_
  refine r_getR (b := 50) (q110 (i := 51) rfl) rfl (by decide) (k_47 S) (fun _ _ _ => rfl) (r_47_4 S) ?_
  refine r_iload_n (q110 (i := 52) rfl) rfl ?_
  refine r_aaload5 (q110 (i := 53) rfl) (k_50 S) (vp_in_nI (n := 1) (by decide) (by decide)) (r_50_1 S) ?_
  refine r_iload (q110 (i := 54) rfl) rfl ?_
  refine r_iload_n (q110 (i := 55) rfl) rfl ?_
  refine r_iasN (q110 (i := 56) rfl) (k_52 S) (by omega) (by decide) ?_
  refine r_aload_n (q110 (i := 57) rfl) rfl ?_
  refine r_getR (b := 53) (q110 (i := 58) rfl) rfl (by decide) (k_47 S) (fun _ _ _ => rfl) (r_47_5 S) ?_
  refine r_iload_n (q110 (i := 59) rfl) rfl ?_
  refine r_aaload5 (q110 (i := 60) rfl) (k_53 S) (vp_in_nI (n := 1) (by decide) (by decide)) (r_53_1 S) ?_
  refine r_iload (q110 (i := 61) rfl) rfl ?_
  refine r_iload_n (q110 (i := 62) rfl) rfl ?_
  refine r_iasN (q110 (i := 63) rfl) (k_55 S) (by omega) (by decide) ?_
  refine r_aload_n (q110 (i := 64) rfl) rfl ?_
  refine r_getR (b := 56) (q110 (i := 65) rfl) rfl (by decide) (k_47 S) (fun _ _ _ => rfl) (r_47_6 S) ?_
  refine r_iload_n (q110 (i := 66) rfl) rfl ?_
  refine r_aaload5 (q110 (i := 67) rfl) (k_56 S) (vp_in_nI (n := 1) (by decide) (by decide)) (r_56_1 S) ?_
  refine r_iload (q110 (i := 68) rfl) rfl ?_
  refine r_iload (q110 (i := 69) rfl) rfl ?_
  refine r_iasN (q110 (i := 70) rfl) (k_58 S) (by omega) (by decide) ?_
  refine r_aload_n (q110 (i := 71) rfl) rfl ?_
  refine r_getR (b := 59) (q110 (i := 72) rfl) rfl (by decide) (k_47 S) (fun _ _ _ => rfl) (r_47_7 S) ?_
  refine r_iload_n (q110 (i := 73) rfl) rfl ?_
  refine r_aaload5 (q110 (i := 74) rfl) (k_59 S) (vp_in_nI (n := 1) (by decide) (by decide)) (r_59_1 S) ?_
  refine r_iload (q110 (i := 75) rfl) rfl ?_
  refine r_iload (q110 (i := 76) rfl) rfl ?_
  refine r_iasN (q110 (i := 77) rfl) (k_61 S) (by omega) (by decide) ?_
  refine r_aload_n (q110 (i := 78) rfl) rfl ?_
  refine r_getR (b := 48) (q110 (i := 79) rfl) rfl (by decide) (k_47 S) (fun _ _ _ => rfl) (r_47_2 S) ?_
  refine r_iload_n (q110 (i := 80) rfl) rfl ?_
  refine r_dup2 (q110 (i := 81) rfl) rfl rfl ?_
  refine r_iaload (x := nI g) (q110 (i := 82) rfl) (k_48 S) (vp_in_nI (n := 1) (by decide) (by decide)) e2 ?_
  refine r_iconst (v := 1) (q110 (i := 83) rfl) (by decide) ?_
  refine r_iadd (q110 (i := 84) rfl) ?_
  rw [show ((nI g) + 1 : Int32) = nI (g + 1) from nI_1 _]
  refine r_iastore (q110 (i := 85) rfl) (k_48 S) (vp_in_nI (n := 1) (by decide) (by decide)) ?_
  show Wp _ _ _ _ _ _ (sI (sI (sI (sI (sI h 52 g 0) 55 g a) 58 g b) 61 g 0) 48 1 (nI (g + 1))) _ _
  refine r_aload_n (q110 (i := 86) rfl) rfl ?_
  refine r_cV (d := _) (q110 (i := 87) rfl) rfl rfl rfl (k_47 S) (Nat.le_of_ble_eq_true rfl) (Nat.zero_le _) (Nat.zero_le _) (sp_chg (d := d) (h := sI (sI (sI (sI (sI h 52 g 0) 55 g a) 58 g b) 61 g 0) 48 1 (nI (g + 1))) (S.to rfl)) ?_
  show Wp _ _ _ 149 [(7, .int (nI g)), (6, .int 1), (0, .ref 47), (1, .int 1), (2, .int 0), (3, .int a), (4, .int b), (5, .int 0)] [] (chg (sI (sI (sI (sI (sI h 52 g 0) 55 g a) 58 g b) 61 g 0) 48 1 (nI (g + 1)))) _ _
  refine r_aload_n (q110 (i := 88) rfl) rfl ?_
  refine r_getI (x := nI n) (q110 (i := 89) rfl) rfl (by decide) (k_47 S) (fun _ _ _ => rfl) e1 ?_
  refine r_iload (q110 (i := 90) rfl) rfl ?_
  refine r_iadd (q110 (i := 91) rfl) ?_
  rw [show ((nI n) + (nI g) : Int32) = nI (n + g) from nI_add _ _]
  exact r_iret (q110 (i := 92) rfl) rfl hQ
set_option maxHeartbeats 2000000 in
set_option maxRecDepth 10000 in
theorem sp_mo1 {d : Nat} {h : hp} (S : Sh h) {n g k : Nat} (e1 : hI h 47 1 = nI n) (e2 : hI h 48 1 = nI g) (e3 : hI h 49 1 = nI k) (hk : k < 10) {s : Int32} (hs : pl s < nI (n + g)) : Run (d + 1 + 1) 111 [.ref 47, .int 1, .int s] h 0 0 (some (.int (nI k))) (chg (sI (sI h 64 k s) 49 1 (nI (k + 1)))) := by
  have Ra := sp_mhas1 (d := d) S e1 e2 s
  rw [hasS_1 hs] at Ra
  refine Run.of (Nat.le_of_ble_eq_true rfl) (fun Q hQ => ?_)
  show Wp (Ex (d + 1)) 111 Q 0 [(0, .ref 47), (1, .int 1), (2, .int s)] [] h 0 0
  refine r_iload_n (q111 (i := 0) rfl) rfl ?_
  refine r_cS (d := _) (q111 (i := 1) rfl) rfl (Nat.le_of_ble_eq_true rfl) rfl rfl (Nat.le_of_ble_eq_true rfl) (Nat.zero_le _) (Nat.zero_le _) (sp_isC1 (d := d)) ?_
  show Wp _ _ _ 4 [(0, .ref 47), (1, .int 1), (2, .int s)] [.int 1] h _ _
  refine r_if 27 (q111 (i := 2) rfl) (by decide) (fun zz => absurd zz (show ¬ ((1 : Int32) = 0) from by decide)) (fun _ => ?_)
  refine r_aload_n (q111 (i := 3) rfl) rfl ?_
  refine r_iload_n (q111 (i := 4) rfl) rfl ?_
  refine r_iload_n (q111 (i := 5) rfl) rfl ?_
  refine r_cV (d := _) (q111 (i := 6) rfl) rfl rfl rfl (k_47 S) (Nat.le_of_ble_eq_true rfl) (Nat.zero_le _) (Nat.zero_le _) Ra ?_
  show Wp _ _ _ 13 [(0, .ref 47), (1, .int 1), (2, .int s)] [.int 1] h _ _
  refine r_if 27 (q111 (i := 7) rfl) (by decide) (fun zz => absurd zz (show ¬ ((1 : Int32) = 0) from by decide)) (fun _ => ?_)
  refine r_aload_n (q111 (i := 8) rfl) rfl ?_
  refine r_getR (b := 49) (q111 (i := 9) rfl) rfl (by decide) (k_47 S) (fun _ _ _ => rfl) (r_47_3 S) ?_
  refine r_iload_n (q111 (i := 10) rfl) rfl ?_
  refine r_iaload (x := nI k) (q111 (i := 11) rfl) (k_49 S) (vp_in_nI (n := 1) (by decide) (by decide)) e3 ?_
  refine r_bipush (v := 10) (q111 (i := 12) rfl) (by decide) ?_
  refine r_icmp 29 (q111 (i := 13) rfl) (by decide) (fun _ => ?_) (fun zz => absurd (show ¬ nI k = 10 from neN (b := 10) (by omega) (by decide) (by omega)) zz)
  refine r_aload_n (q111 (i := 16) rfl) rfl ?_
  refine r_getR (b := 62) (q111 (i := 17) rfl) rfl (by decide) (k_47 S) (fun _ _ _ => rfl) (r_47_8 S) ?_
  refine r_iload_n (q111 (i := 18) rfl) rfl ?_
  refine r_aaload5 (q111 (i := 19) rfl) (k_62 S) (vp_in_nI (n := 1) (by decide) (by decide)) (r_62_1 S) ?_
  refine r_aload_n (q111 (i := 20) rfl) rfl ?_
  refine r_getR (b := 49) (q111 (i := 21) rfl) rfl (by decide) (k_47 S) (fun _ _ _ => rfl) (r_47_3 S) ?_
  refine r_iload_n (q111 (i := 22) rfl) rfl ?_
  refine r_iaload (x := nI k) (q111 (i := 23) rfl) (k_49 S) (vp_in_nI (n := 1) (by decide) (by decide)) e3 ?_
  refine r_iload_n (q111 (i := 24) rfl) rfl ?_
  refine r_iasN (q111 (i := 25) rfl) (k_64 S) (by omega) (by decide) ?_
  refine r_aload_n (q111 (i := 26) rfl) rfl ?_
  refine r_getR (b := 49) (q111 (i := 27) rfl) rfl (by decide) (k_47 S) (fun _ _ _ => rfl) (r_47_3 S) ?_
  refine r_iload_n (q111 (i := 28) rfl) rfl ?_
  refine r_dup2 (q111 (i := 29) rfl) rfl rfl ?_
  refine r_iaload (x := nI k) (q111 (i := 30) rfl) (k_49 S) (vp_in_nI (n := 1) (by decide) (by decide)) e3 ?_
  refine r_iconst (v := 1) (q111 (i := 31) rfl) (by decide) ?_
  refine r_iadd (q111 (i := 32) rfl) ?_
  rw [show ((nI k) + 1 : Int32) = nI (k + 1) from nI_1 _]
  refine r_iastore (q111 (i := 33) rfl) (k_49 S) (vp_in_nI (n := 1) (by decide) (by decide)) ?_
  show Wp _ _ _ _ _ _ (sI (sI h 64 k s) 49 1 (nI (k + 1))) _ _
  refine r_aload_n (q111 (i := 34) rfl) rfl ?_
  refine r_cV (d := _) (q111 (i := 35) rfl) rfl rfl rfl (k_47 S) (Nat.le_of_ble_eq_true rfl) (Nat.zero_le _) (Nat.zero_le _) (sp_chg (d := d) (h := sI (sI h 64 k s) 49 1 (nI (k + 1))) (S.to rfl)) ?_
  show Wp _ _ _ 57 [(0, .ref 47), (1, .int 1), (2, .int s)] [] (chg (sI (sI h 64 k s) 49 1 (nI (k + 1)))) _ _
  refine r_aload_n (q111 (i := 36) rfl) rfl ?_
  refine r_getR (b := 49) (q111 (i := 37) rfl) rfl (by decide) (k_47 S) (fun _ _ _ => rfl) (r_47_3 S) ?_
  refine r_iload_n (q111 (i := 38) rfl) rfl ?_
  refine r_iaload (x := nI (k + 1)) (q111 (i := 39) rfl) (k_49 S) (vp_in_nI (n := 1) (by decide) (by decide)) rfl ?_
  refine r_iconst (v := 1) (q111 (i := 40) rfl) (by decide) ?_
  refine r_isub (q111 (i := 41) rfl) ?_
  rw [show ((nI (k + 1)) - 1 : Int32) = nI k from nI_pred _]
  exact r_iret (q111 (i := 42) rfl) rfl hQ
set_option maxHeartbeats 2000000 in
set_option maxRecDepth 10000 in
theorem sp_msig {d : Nat} {h : hp} (S : Sh h) {t : txt} {K : Bool} {rk : Nat → Option Nat} {lit : Nat} (hl : lit ≤ 2001) (e : hI h 1324 (lit / 2) = nI (sgn t K rk lit)) : Run (d + 1) 128 [.ref 47, .int (nI lit)] h 0 0 (some (.int (sg t K rk lit))) h := by
  refine Run.of (Nat.le_of_ble_eq_true rfl) (fun Q hQ => ?_)
  show Wp (Ex (d)) 128 Q 0 [(0, .ref 47), (1, .int (nI lit))] [] h 0 0
  refine r_aload_n (q128 (i := 0) rfl) rfl ?_
  refine r_getR (b := 1324) (q128 (i := 1) rfl) rfl (by decide) (k_47 S) (fun _ _ _ => rfl) (r_47_39 S) ?_
  refine r_iload_n (q128 (i := 2) rfl) rfl ?_
  refine r_iconst (v := 2) (q128 (i := 3) rfl) (by decide) ?_
  refine r_idiv (q128 (i := 4) rfl) (by decide) ?_
  rw [show ((nI lit) / 2 : Int32) = nI (lit / 2) from div2 (by omega)]
  refine r_iaN (x := nI (sgn t K rk lit)) (q128 (i := 5) rfl) (k_1324 S) (by omega) (by decide) e ?_
  refine r_istore_n (ls' := [(2, .int (nI (sgn t K rk lit))), (0, .ref 47), (1, .int (nI lit))]) (q128 (i := 6) rfl) (Nat.le_of_ble_eq_true rfl) rfl ?_
  refine r_iload_n (q128 (i := 7) rfl) rfl ?_
  refine r_iconst (v := 2) (q128 (i := 8) rfl) (by decide) ?_
  refine r_irem (q128 (i := 9) rfl) (by decide) ?_
  rw [show ((nI lit) - (nI lit) / 2 * 2 : Int32) = nI (lit % 2) from rem2 (by omega)]
  refine r_iconst (v := 1) (q128 (i := 10) rfl) (by decide) ?_
  refine r_icmp 22 (q128 (i := 11) rfl) (by decide) (fun c13 => ?_) (fun c13 => ?_)
  · have c13 : ¬ nI (lit % 2) = 1 := c13
    have e1 : sg t K rk lit = nI (sgn t K rk lit) := if_pos (by rcases Nat.mod_two_eq_zero_or_one lit with y | y; exact y; exact absurd (by rw [y]; rfl) c13)
    rw [e1] at hQ
    refine r_iload_n (q128 (i := 16) rfl) rfl ?_
    exact r_iret (q128 (i := 17) rfl) rfl hQ
  · have c13 : ¬ (¬ nI (lit % 2) = 1) := c13
    have e1 : sg t K rk lit = nI (sgn t K rk lit) ^^^ (-1) := if_neg (fun y => c13 (by rw [y]; decide))
    rw [e1] at hQ
    refine r_iload_n (q128 (i := 12) rfl) rfl ?_
    refine r_iconst (v := (-1)) (q128 (i := 13) rfl) (by decide) ?_
    refine r_ixor (q128 (i := 14) rfl) ?_
    refine r_goto 23 (q128 (i := 15) rfl) (by decide) ?_
    exact r_iret (q128 (i := 17) rfl) rfl hQ
/-- what is there, and as which SIGNAL -/
def thv (t : txt) (K : Bool) (rk : Nat → Option Nat) (v : Nat) : Bool := if v = 0 then K else if tD t v = 0 then false else if tD t v ≤ tn t then true else (rk (tD t v - tn t - 1)).isSome
def THS (h : hp) (t : txt) (K : Bool) (rk : Nat → Option Nat) : Prop := ∀ v, v < 1002 → hI h 1325 v = bI (thv t K rk v) ∧ (thv t K rk v = true → hI h 1324 v = nI (sgn t K rk (2 * v)))
theorem sgn_half (t : txt) (K : Bool) (rk : Nat → Option Nat) (lit : Nat) : sgn t K rk (2 * (lit / 2)) = sgn t K rk lit := by
  unfold sgn AO
  rw [show 2 * (lit / 2) / 2 = lit / 2 by omega]
theorem thv_thr {t : txt} {K : Bool} {rk : Nat → Option Nat} {lit : Nat} (hK : K = false → 2 ≤ lit) (h0 : tD t 0 = 0) (hd : lit / 2 = 0 ∨ tD t (lit / 2) ≠ 0) : thv t K rk (lit / 2) = thr t rk lit := by
  unfold thv thr AO
  by_cases y : lit / 2 = 0
  · rw [if_pos y, y, h0, if_neg (Nat.not_lt_zero _)]
    cases K with
    | true => rfl
    | false => have := hK rfl; omega
  · have hd := hd.resolve_left y
    rw [if_neg y, if_neg hd]
    by_cases w : tD t (lit / 2) ≤ tn t
    · rw [if_pos w, if_neg (by omega)]
    · rw [if_neg w, if_pos (by omega)]
