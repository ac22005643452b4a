/-! NEAREST -/
def dsF (lo hi r : Nat → Int) (w : Nat) : Nat → Int
  | 0 => 0
  | i + 1 => dsF lo hi r w i + betw (lo i) (hi i) (tl (r (18 + 7 * w + i)).toNat) (tg (r (18 + 7 * w + i)).toNat)
def nrF (D r : Nat → Int) (m : Int) : Nat → Int × Int × Int
  | 0 => (-4, 0, 0)
  | w + 1 => if r (17 + 7 * w) = m then (if (nrF D r m w).1 = -4 ∨ D w < (nrF D r m w).2.1 then ((w : Int), D w, 1) else if D w = (nrF D r m w).2.1 then ((nrF D r m w).1, (nrF D r m w).2.1, 0) else nrF D r m w) else nrF D r m w
def D8s (lo : Nat → Int) (m : Int) : Prop := ∀ i : Nat, (i : Int) < m → D8 (lo i)
theorem dsF_b {lo hi r : Nat → Int} {m : Int} (h1 : D8s lo m) (h2 : D8s hi m) (w : Nat) : ∀ i : Nat, (i : Int) ≤ m → 0 ≤ dsF lo hi r w i ∧ dsF lo hi r w i ≤ 8 * i
  | 0, _ => by simp [dsF]
  | i + 1, h => by
    have := dsF_b h1 h2 (r := r) w i (by omega)
    have := betw_b (h1 i (by omega)) (h2 i (by omega)) (tl_b (r (18 + 7 * w + i)).toNat) (tg_b (r (18 + 7 * w + i)).toNat)
    simp only [dsF]; omega
theorem dsF_congr {lo hi lo' hi' r : Nat → Int} {w : Nat} : ∀ n : Nat, (∀ i : Nat, i < n → lo i = lo' i ∧ hi i = hi' i) → dsF lo hi r w n = dsF lo' hi' r w n
  | 0, _ => rfl
  | n + 1, h => by simp only [dsF]; rw [dsF_congr n (fun i hi => h i (by omega)), (h n (by omega)).1, (h n (by omega)).2]
theorem nrF_b {D r : Nat → Int} {m : Int} (hD : ∀ w : Nat, 0 ≤ D w ∧ D w ≤ 96) : ∀ w : Nat, ((nrF D r m w).1 = -4 ∨ (0 ≤ (nrF D r m w).1 ∧ (nrF D r m w).1 < w)) ∧ (0 ≤ (nrF D r m w).2.1 ∧ (nrF D r m w).2.1 ≤ 96) ∧ ((nrF D r m w).2.2 = 0 ∨ (nrF D r m w).2.2 = 1)
  | 0 => by simp [nrF]
  | w + 1 => by
    have h := nrF_b hD (r := r) (m := m) w
    have := hD w
    simp only [nrF]
    repeat' split
    all_goals ((try dsimp only); omega)
theorem nrF_congr {D D' r : Nat → Int} {m : Int} : ∀ n : Nat, (∀ w : Nat, w < n → r (17 + 7 * w) = m → D w = D' w) → nrF D r m n = nrF D' r m n
  | 0, _ => rfl
  | n + 1, h => by
    have ih := nrF_congr (D := D) (D' := D') (r := r) (m := m) n (fun w hw => h w (by omega))
    simp only [nrF]
    rw [ih]
    split
    · rename_i hm; rw [h n (by omega) hm]
    · rfl
/-- of signs lo, hi, m of them, among the words of a row -/
def nearF (lo hi r : Nat → Int) (m : Int) : Int × Int × Int := nrF (fun w => dsF lo hi r w m.toNat) r m (r 1).toNat
theorem nearF_congr {lo hi lo' hi' r : Nat → Int} {m : Int} (h : ∀ i : Nat, (i : Int) < m → lo i = lo' i ∧ hi i = hi' i) : nearF lo hi r m = nearF lo' hi' r m :=
  nrF_congr _ (fun w hw hm => dsF_congr _ (fun i hi => h i (by omega)))
theorem nearF_b {lo hi r : Nat → Int} {m : Int} (h1 : D8s lo m) (h2 : D8s hi m) (hm : 0 ≤ m ∧ m ≤ 12) : ((nearF lo hi r m).1 = -4 ∨ (0 ≤ (nearF lo hi r m).1 ∧ (nearF lo hi r m).1 < ((r 1).toNat : Int))) ∧ (0 ≤ (nearF lo hi r m).2.1 ∧ (nearF lo hi r m).2.1 ≤ 96) ∧ ((nearF lo hi r m).2.2 = 0 ∨ (nearF lo hi r m).2.2 = 1) :=
  nrF_b (fun w => by have := dsF_b h1 h2 (r := r) w m.toNat (by omega); omega) _

set_option maxRecDepth 20000 in
theorem C_put (Γ : GC) (M : Mm) (x : Int) (i : Nat) (hx : x = i) (hi : i < 12) (p q : Int) : Ct Γ uX4_put [rf Γ 76, vi x, vi p, vi q] M (fun _ M' => M' = up2 (up2 M 77 i p) 78 i q) := by
  refine Ct.of (by decide) (Nat.le_of_ble_eq_true rfl) ?_
  show AW Γ uX4_put 0 [(0, rf Γ 76), (1, vi x), (2, vi p), (3, vi q)] [] M _
  refine AW.aload_n dX4_put_0 0 rfl rfl ?_
  refine AW.getR dX4_put_1 fl_X4_9 (show sh 76 = (0, 4, [some 77, some 78, none, none, none, none]) from rfl) rfl ?_
  refine AW.iload_n dX4_put_4 1 rfl rfl ?_
  refine AW.iload_n dX4_put_5 2 rfl rfl ?_
  refine AW.iastN i dX4_put_6 (show sh 77 = (1, 12, []) from rfl) (by omega) (by omega) (by decide) ?_
  refine AW.aload_n dX4_put_7 0 rfl rfl ?_
  refine AW.getR dX4_put_8 fl_X4_15 (show sh 76 = (0, 4, [some 77, some 78, none, none, none, none]) from rfl) rfl ?_
  refine AW.iload_n dX4_put_11 1 rfl rfl ?_
  refine AW.iload_n dX4_put_12 3 rfl rfl ?_
  refine AW.iastN i dX4_put_13 (show sh 78 = (1, 12, []) from rfl) (by omega) (by omega) (by decide) ?_
  exact AW.vret rfl dX4_put_14 rfl

set_option maxRecDepth 20000 in
theorem seeMsg_loop (Γ : GC) (M : Mm) (k : Nat) (hk : St k) (hkd : k + 3 < 76) (r : Nat → Int) (ho : OkR r) (hr : stRel M k r) : ∀ (n i : Nat) (x : Int) (N : Mm), x = i → (i : Int) ≤ r 0 → N 76 2 = r 0 → (∀ j : Nat, j ≠ 2 → N 76 j = M 76 j) → (∀ q : Nat, q < i → N 77 q = tl (r (5 + q)).toNat ∧ N 78 q = tg (r (5 + q)).toNat) → (∀ a : Nat, a ≠ 76 → a ≠ 77 → a ≠ 78 → N a = M a) → 12 - i < n → AW Γ uX4_seeMessage 10 [(2, vi x), (0, rf Γ 76), (1, rf Γ k)] [] N (fun _ M' => M' 76 2 = r 0 ∧ (∀ j : Nat, j ≠ 2 → M' 76 j = M 76 j) ∧ (∀ i : Nat, (i : Int) < r 0 → M' 77 i = tl (r (5 + i)).toNat ∧ M' 78 i = tg (r (5 + i)).toNat) ∧ ∀ a : Nat, a ≠ 76 → a ≠ 77 → a ≠ 78 → M' a = M a) := by
  obtain ⟨h1, h2, h3, h4, h5, h6, h7⟩ := id hr
  obtain ⟨o0, o1, o2, o3, o4, o5, o6⟩ := id ho
  intro n
  induction n with
  | zero => intro i x N g1 g2 g3 g4 g5 g6 gm; omega
  | succ n ih =>
    intro i x N g1 g2 g3 g4 g5 g6 gm
    have hl : (i : Int) < r 0 → 0 ≤ r (5 + i) ∧ r (5 + i) < 26 := o5 i
    refine AW.iload_n dX4_seeMessage_10 0 rfl rfl ?_
    refine AW.aload_n dX4_seeMessage_11 1 rfl rfl ?_
    refine AW.getI dX4_seeMessage_12 fl_X4_18 (show sh 76 = (0, 4, [some 77, some 78, none, none, none, none]) from rfl) rfl ?_
    rw [g3]
    refine AW.icmp_ge 49 dX4_seeMessage_15 (by decide) (by omega) (by omega) (fun c15 => ?_) (fun c15 => ?_)
    · exact AW.vret rfl dX4_seeMessage_49 ⟨g3, g4, fun q hq => g5 q (by omega), g6⟩
    · refine AW.aload_n dX4_seeMessage_18 1 rfl rfl ?_
      refine AW.iload_n dX4_seeMessage_19 0 rfl rfl ?_
      refine AW.getsLN dX4_seeMessage_20 gs_X4_37 ?_
      refine AW.aload_n dX4_seeMessage_23 2 rfl rfl ?_
      refine AW.getR dX4_seeMessage_24 fl_X4_40 hk.1 rfl ?_
      refine AW.iload_n dX4_seeMessage_27 0 rfl rfl ?_
      refine AW.ialdN i dX4_seeMessage_28 hk.2.1 (by omega) (by omega) (by decide) ?_
      rw [g6 (k + 1) (by omega) (by omega) (by omega), h6 i (by omega)]
      refine AW.taldLN ((r (5 + i)).toNat) dX4_seeMessage_29 (by omega) (by omega) ?_
      refine AW.getsGN dX4_seeMessage_30 gs_X4_43 ?_
      refine AW.aload_n dX4_seeMessage_33 2 rfl rfl ?_
      refine AW.getR dX4_seeMessage_34 fl_X4_40 hk.1 rfl ?_
      refine AW.iload_n dX4_seeMessage_37 0 rfl rfl ?_
      refine AW.ialdN i dX4_seeMessage_38 hk.2.1 (by omega) (by omega) (by decide) ?_
      rw [g6 (k + 1) (by omega) (by omega) (by omega), h6 i (by omega)]
      refine AW.taldGN ((r (5 + i)).toNat) dX4_seeMessage_39 (by omega) (by omega) ?_
      refine AW.callV3v (C_put Γ N x i (by omega) (by omega) _ _) dX4_seeMessage_40 mc_X4_46 (show sh 76 = (0, 4, [some 77, some 78, none, none, none, none]) from rfl) (fun _ => rfl) ⟨Nat.le_of_ble_eq_true rfl, Nat.le_of_ble_eq_true rfl⟩ (Nat.le_of_ble_eq_true rfl) (fun z40 M40 h40 => ?_)
      subst h40
      obtain ⟨x43, ex43⟩ : ∃ z : Int, x + 1 = z := ⟨_, rfl⟩
      refine AW.iinc [(2, vi x43), (0, rf Γ 76), (1, rf Γ k)] dX4_seeMessage_43 0 rfl (by decide) x43 ex43 rfl ?_
      refine AW.goto 10 dX4_seeMessage_46 (by decide) ?_
      refine AW.sub [0, 1, 2] rfl ?_
      exact ih (i + 1) x43 _ (by omega) (by omega) (by rw [up2_c (by decide), up2_c (by decide)]; exact g3) (fun j hj => by rw [up2_c (by decide), up2_c (by decide)]; exact g4 j hj) (fun q hq => by
        rcases Nat.lt_or_ge q i with h | h
        · rw [up2_c (by decide), up2_i (by omega), up2_i (by omega), up2_c (by decide)]; exact g5 q h
        · have : q = i := by omega
          subst this
          rw [up2_c (by decide), up2_s, up2_s]; exact ⟨rfl, rfl⟩) (fun a b1 b2 b3 => by rw [up2_c b3, up2_c b2]; exact g6 a b1 b2 b3) (by omega)

set_option maxRecDepth 20000 in
theorem C_seeMessage (Γ : GC) (M : Mm) (k : Nat) (hk : St k) (hkd : k + 3 < 76) (r : Nat → Int) (ho : OkR r) (hr : stRel M k r) : Ct Γ uX4_seeMessage [rf Γ 76, rf Γ k] M (fun _ M' => M' 76 2 = r 0 ∧ (∀ j : Nat, j ≠ 2 → M' 76 j = M 76 j) ∧ (∀ i : Nat, (i : Int) < r 0 → M' 77 i = tl (r (5 + i)).toNat ∧ M' 78 i = tg (r (5 + i)).toNat) ∧ ∀ a : Nat, a ≠ 76 → a ≠ 77 → a ≠ 78 → M' a = M a) := by
  refine Ct.of (by decide) (Nat.le_of_ble_eq_true rfl) ?_
  show AW Γ uX4_seeMessage 0 [(0, rf Γ 76), (1, rf Γ k)] [] M _
  refine AW.aload_n dX4_seeMessage_0 0 rfl rfl ?_
  refine AW.aload_n dX4_seeMessage_1 1 rfl rfl ?_
  refine AW.getI dX4_seeMessage_2 fl_X4_32 hk.1 rfl ?_
  refine AW.putI dX4_seeMessage_5 fp_X4_18 (show sh 76 = (0, 4, [some 77, some 78, none, none, none, none]) from rfl) rfl ?_
  refine AW.iconst dX4_seeMessage_8 ?_
  refine AW.top (fun x9 ex9 => ?_)
  refine AW.istore_n [(2, vi x9), (0, rf Γ 76), (1, rf Γ k)] dX4_seeMessage_9 rfl (by decide) rfl ?_
  refine AW.sub [0, 1, 2] rfl ?_
  exact seeMsg_loop Γ M k hk hkd r ho hr 13 0 x9 _ (by omega) (by have := ho.1; omega) (by rw [up2_s]; exact hr.1) (fun j hj => up2_i hj) (fun q hq => by omega) (fun a b1 b2 b3 => up2_c b1) (by omega)

set_option maxRecDepth 20000 in
theorem dist_loop (Γ : GC) (M : Mm) (k : Nat) (hk : St k) (r : Nat → Int) (ho : OkR r) (hr : stRel M k r) (w0 : Nat) (x0 : Int) (hx0 : x0 = w0) (hw : (w0 : Int) < r 1) (hm : r (17 + 7 * w0) = M 76 2) (hd1 : D8s (M 77) (M 76 2)) (hd2 : D8s (M 78) (M 76 2)) : ∀ (n i : Nat) (x f : Int), x = i → (i : Int) ≤ M 76 2 → f = dsF (M 77) (M 78) r w0 i → 12 - i < n → AW Γ uX4_distanceTo 5 [(4, vi x), (3, vi f), (0, rf Γ 76), (1, rf Γ k), (2, vi x0)] [] M (Pu (dsF (M 77) (M 78) r w0 (M 76 2).toNat) M) := by
  obtain ⟨h1, h2, h3, h4, h5, h6, h7⟩ := id hr
  obtain ⟨o0, o1, o2, o3, o4, o5, o6⟩ := id ho
  have hsz := (o6 w0 (by omega)).1
  intro n
  induction n with
  | zero => intro i x f g0 g1 g2 gm; omega
  | succ n ih =>
    intro i x f g0 g1 g2 gm
    have hdb := dsF_b hd1 hd2 (r := r) w0 i g1
    refine AW.iload dX4_distanceTo_5 0 rfl ?_
    refine AW.aload_n dX4_distanceTo_7 2 rfl rfl ?_
    refine AW.getI dX4_distanceTo_8 fl_X4_18 (show sh 76 = (0, 4, [some 77, some 78, none, none, none, none]) from rfl) rfl ?_
    refine AW.icmp_ge 61 dX4_distanceTo_11 (by decide) (by omega) (by omega) (fun c11 => ?_) (fun c11 => ?_)
    · refine AW.iload_n dX4_distanceTo_61 1 rfl rfl ?_
      exact AW.iret rfl dX4_distanceTo_62 ⟨by rw [g2, show i = (M 76 2).toNat by omega], rfl⟩
    · refine AW.aload_n dX4_distanceTo_14 3 rfl rfl ?_
      refine AW.iload_n dX4_distanceTo_15 4 rfl rfl ?_
      refine AW.iload dX4_distanceTo_16 0 rfl ?_
      refine AW.callV2ip (C_letterOf Γ M k hk _ _ (by omega) (by omega)) dX4_distanceTo_18 mc_X4_70 hk.1 (fun _ => rfl) ⟨Nat.le_of_ble_eq_true rfl, Nat.le_of_ble_eq_true rfl⟩ (Nat.le_of_ble_eq_true rfl) ?_
      refine AW.top (fun lt elt => ?_)
      refine AW.istore [(5, vi lt), (4, vi x), (3, vi f), (0, rf Γ 76), (1, rf Γ k), (2, vi x0)] dX4_distanceTo_21 (by decide) rfl ?_
      have hlt : lt = r (18 + 7 * w0 + i) := by rw [elt, show (x0 * 6 + x).toNat = 6 * w0 + i by omega]; exact (h7 w0 (by omega)).2 i (by omega)
      have hlb := (o6 w0 (by omega)).2 i (by omega)
      refine AW.iload_n dX4_distanceTo_23 2 rfl rfl ?_
      refine AW.aload_n dX4_distanceTo_24 3 rfl rfl ?_
      refine AW.getR dX4_distanceTo_25 fl_X4_9 (show sh 76 = (0, 4, [some 77, some 78, none, none, none, none]) from rfl) rfl ?_
      refine AW.iload dX4_distanceTo_28 1 rfl ?_
      refine AW.ialdN i dX4_distanceTo_30 (show sh 77 = (1, 12, []) from rfl) (by omega) (by omega) (by decide) ?_
      refine AW.aload_n dX4_distanceTo_31 3 rfl rfl ?_
      refine AW.getR dX4_distanceTo_32 fl_X4_15 (show sh 76 = (0, 4, [some 77, some 78, none, none, none, none]) from rfl) rfl ?_
      refine AW.iload dX4_distanceTo_35 1 rfl ?_
      refine AW.ialdN i dX4_distanceTo_37 (show sh 78 = (1, 12, []) from rfl) (by omega) (by omega) (by decide) ?_
      refine AW.getsLN dX4_distanceTo_38 gs_X4_37 ?_
      refine AW.iload dX4_distanceTo_41 0 rfl ?_
      refine AW.taldLN (lt.toNat) dX4_distanceTo_43 (by omega) (by omega) ?_
      refine AW.getsGN dX4_distanceTo_44 gs_X4_43 ?_
      refine AW.iload dX4_distanceTo_47 0 rfl ?_
      refine AW.taldGN (lt.toNat) dX4_distanceTo_49 (by omega) (by omega) ?_
      refine AW.callN4ip (C_betw Γ M _ _ _ _ (hd1 i (by omega)) (hd2 i (by omega)) (tl_b _) (tg_b _)) dX4_distanceTo_50 mc_X4_74 (fun _ => rfl) ⟨Nat.le_of_ble_eq_true rfl, Nat.le_of_ble_eq_true rfl⟩ (Nat.le_of_ble_eq_true rfl) ?_
      refine AW.iadd dX4_distanceTo_53 ?_
      refine AW.top (fun f2 ef2 => ?_)
      refine AW.istore_n [(3, vi f2), (5, vi lt), (4, vi x), (0, rf Γ 76), (1, rf Γ k), (2, vi x0)] dX4_distanceTo_54 rfl (by decide) rfl ?_
      obtain ⟨x55, ex55⟩ : ∃ z : Int, x + 1 = z := ⟨_, rfl⟩
      refine AW.iinc [(4, vi x55), (3, vi f2), (5, vi lt), (0, rf Γ 76), (1, rf Γ k), (2, vi x0)] dX4_distanceTo_55 2 rfl (by decide) x55 ex55 rfl ?_
      refine AW.goto 5 dX4_distanceTo_58 (by decide) ?_
      refine AW.sub [0, 1, 3, 4, 5] rfl ?_
      exact ih (i + 1) x55 f2 (by omega) (by omega) (by rw [ef2, g2, hlt]; rfl) (by omega)

set_option maxRecDepth 20000 in
theorem C_distanceTo (Γ : GC) (M : Mm) (k : Nat) (hk : St k) (r : Nat → Int) (ho : OkR r) (hr : stRel M k r) (w0 : Nat) (x0 : Int) (hx0 : x0 = w0) (hw : (w0 : Int) < r 1) (hm : r (17 + 7 * w0) = M 76 2) (hd1 : D8s (M 77) (M 76 2)) (hd2 : D8s (M 78) (M 76 2)) : Ct Γ uX4_distanceTo [rf Γ 76, rf Γ k, vi x0] M (Pu (dsF (M 77) (M 78) r w0 (M 76 2).toNat) M) := by
  refine Ct.of (by decide) (Nat.le_of_ble_eq_true rfl) ?_
  show AW Γ uX4_distanceTo 0 [(0, rf Γ 76), (1, rf Γ k), (2, vi x0)] [] M _
  refine AW.iconst dX4_distanceTo_0 ?_
  refine AW.top (fun x1 ex1 => ?_)
  refine AW.istore_n [(3, vi x1), (0, rf Γ 76), (1, rf Γ k), (2, vi x0)] dX4_distanceTo_1 rfl (by decide) rfl ?_
  refine AW.iconst dX4_distanceTo_2 ?_
  refine AW.top (fun x3 ex3 => ?_)
  refine AW.istore [(4, vi x3), (3, vi x1), (0, rf Γ 76), (1, rf Γ k), (2, vi x0)] dX4_distanceTo_3 (by decide) rfl ?_
  refine AW.sub [0, 1, 2, 3, 4] rfl ?_
  exact dist_loop Γ M k hk r ho hr w0 x0 hx0 hw hm hd1 hd2 14 0 x3 x1 (by omega) (by have := (ho.2.2.2.2.2.2 w0 hw).1; omega) (by rw [ex1]; rfl) (by have := (ho.2.2.2.2.2.2 w0 hw).1; omega)

def cmpP (M M' : Mm) (nr : Int × Int × Int) : Prop := (M' 76 3 = nr.1 ∧ M' 76 4 = nr.2.1 ∧ M' 76 5 = nr.2.2) ∧ (∀ j : Nat, j ≠ 3 → j ≠ 4 → j ≠ 5 → M' 76 j = M 76 j) ∧ ∀ a : Nat, a ≠ 76 → M' a = M a
theorem cmpP.put3 {M M' : Mm} {nr : Int × Int × Int} (h : cmpP M M' nr) (a b c : Int) : cmpP M (up2 (up2 (up2 M' 76 3 a) 76 4 b) 76 5 c) (a, b, c) :=
  ⟨⟨by rw [up2_i (by decide), up2_i (by decide), up2_s], by rw [up2_i (by decide), up2_s], up2_s⟩, fun j h1 h2 h3 => by rw [up2_i h3, up2_i h2, up2_i h1]; exact h.2.1 j h1 h2 h3, fun q hq => by rw [up2_c hq, up2_c hq, up2_c hq]; exact h.2.2 q hq⟩
theorem cmpP.put1 {M M' : Mm} {nr : Int × Int × Int} (h : cmpP M M' nr) (c : Int) : cmpP M (up2 M' 76 5 c) (nr.1, nr.2.1, c) :=
  ⟨⟨by rw [up2_i (by decide)]; exact h.1.1, by rw [up2_i (by decide)]; exact h.1.2.1, up2_s⟩, fun j h1 h2 h3 => by rw [up2_i h3]; exact h.2.1 j h1 h2 h3, fun q hq => by rw [up2_c hq]; exact h.2.2 q hq⟩

set_option maxRecDepth 20000 in
theorem comp_loop (Γ : GC) (M : Mm) (k : Nat) (hk : St k) (hkd : k + 3 < 76) (r : Nat → Int) (ho : OkR r) (hr : stRel M k r) (hm : 0 ≤ M 76 2 ∧ M 76 2 ≤ 12) (hd1 : D8s (M 77) (M 76 2)) (hd2 : D8s (M 78) (M 76 2)) : ∀ (n i : Nat) (x : Int) (N : Mm), x = i → (i : Int) ≤ r 1 → cmpP M N (nrF (fun w => dsF (M 77) (M 78) r w (M 76 2).toNat) r (M 76 2) i) → 6 - i < n → AW Γ uX4_compare 18 [(2, vi x), (0, rf Γ 76), (1, rf Γ k)] [] N (fun _ M' => cmpP M M' (nearF (M 77) (M 78) r (M 76 2))) := by
  obtain ⟨h1, h2, h3, h4, h5, h6, h7⟩ := id hr
  obtain ⟨o0, o1, o2, o3, o4, o5, o6⟩ := id ho
  intro n
  induction n with
  | zero => intro i x N g1 g2 g3 gm; omega
  | succ n ih =>
    intro i x N g1 g2 g3 gm
    have hb := nrF_b (D := fun w => dsF (M 77) (M 78) r w (M 76 2).toNat) (r := r) (m := M 76 2) (fun w => by have := dsF_b hd1 hd2 (r := r) w (M 76 2).toNat (by omega); (try dsimp only); omega) i
    have hdb := dsF_b hd1 hd2 (r := r) i (M 76 2).toNat (by omega)
    have eN77 : N 77 = M 77 := g3.2.2 77 (by decide)
    have eN78 : N 78 = M 78 := g3.2.2 78 (by decide)
    have eN2 : N 76 2 = M 76 2 := g3.2.1 2 (by decide) (by decide) (by decide)
    have hrN : stRel N k r := hr.frame (g3.2.2 _ (by omega)) (g3.2.2 _ (by omega)) (g3.2.2 _ (by omega)) (g3.2.2 _ (by omega))
    have hdN1 : D8s (N 77) (N 76 2) := by rw [eN77, eN2]; exact hd1
    have hdN2 : D8s (N 78) (N 76 2) := by rw [eN78, eN2]; exact hd2
    have hl7 : (i : Int) < r 1 → M (k + 3) i = r (17 + 7 * i) ∧ (1 ≤ r (17 + 7 * i) ∧ r (17 + 7 * i) ≤ 6) := fun q => ⟨(h7 i q).1, (o6 i q).1⟩
    refine AW.iload_n dX4_compare_18 0 rfl rfl ?_
    refine AW.aload_n dX4_compare_19 2 rfl rfl ?_
    refine AW.getI dX4_compare_20 fl_X4_60 hk.1 rfl ?_
    rw [g3.2.2 k (by omega)]
    refine AW.icmp_ge 103 dX4_compare_23 (by decide) (by omega) (by omega) (fun c23 => ?_) (fun c23 => ?_)
    · exact AW.vret rfl dX4_compare_103 (by unfold nearF; rw [show (r 1).toNat = i by omega]; exact g3)
    · refine AW.aload_n dX4_compare_26 2 rfl rfl ?_
      refine AW.getR dX4_compare_27 fl_X4_63 hk.1 rfl ?_
      refine AW.iload_n dX4_compare_30 0 rfl rfl ?_
      refine AW.ialdN i dX4_compare_31 hk.2.2.2 (by omega) (by omega) (by decide) ?_
      rw [g3.2.2 (k + 3) (by omega)]
      refine AW.aload_n dX4_compare_32 1 rfl rfl ?_
      refine AW.getI dX4_compare_33 fl_X4_18 (show sh 76 = (0, 4, [some 77, some 78, none, none, none, none]) from rfl) rfl ?_
      rw [g3.2.1 2 (by decide) (by decide) (by decide)]
      refine AW.icmp_eq 42 dX4_compare_36 (by decide) (by omega) (by omega) (fun c36 => ?_) (fun c36 => ?_)
      · refine AW.aload_n dX4_compare_42 1 rfl rfl ?_
        refine AW.aload_n dX4_compare_43 2 rfl rfl ?_
        refine AW.iload_n dX4_compare_44 0 rfl rfl ?_
        refine AW.callV2ip (C_distanceTo Γ N k hk r ho hrN i x (by omega) (by omega) (by omega) hdN1 hdN2) dX4_compare_45 mc_X4_66 (show sh 76 = (0, 4, [some 77, some 78, none, none, none, none]) from rfl) (fun _ => rfl) ⟨Nat.le_of_ble_eq_true rfl, Nat.le_of_ble_eq_true rfl⟩ (Nat.le_of_ble_eq_true rfl) ?_
        refine AW.top (fun far efar => ?_)
        refine AW.istore_n [(3, vi far), (2, vi x), (0, rf Γ 76), (1, rf Γ k)] dX4_compare_48 rfl (by decide) rfl ?_
        have efar2 : far = dsF (M 77) (M 78) r i (M 76 2).toNat := by rw [efar, eN77, eN78, eN2]
        refine AW.aload_n dX4_compare_49 2 rfl rfl ?_
        refine AW.getI dX4_compare_50 fl_X4_22 (show sh 76 = (0, 4, [some 77, some 78, none, none, none, none]) from rfl) rfl ?_
        rw [g3.1.1]
        refine AW.bipush (z := (-4)) dX4_compare_53 (by decide) ?_
        refine AW.icmp_eq 66 dX4_compare_55 (by decide) (by omega) (by omega) (fun c55 => ?_) (fun c55 => ?_)
        · refine AW.aload_n dX4_compare_66 2 rfl rfl ?_
          refine AW.iload_n dX4_compare_67 1 rfl rfl ?_
          refine AW.putI dX4_compare_68 fp_X4_22 (show sh 76 = (0, 4, [some 77, some 78, none, none, none, none]) from rfl) rfl ?_
          refine AW.aload_n dX4_compare_71 2 rfl rfl ?_
          refine AW.iload_n dX4_compare_72 0 rfl rfl ?_
          refine AW.putI dX4_compare_73 fp_X4_25 (show sh 76 = (0, 4, [some 77, some 78, none, none, none, none]) from rfl) rfl ?_
          refine AW.aload_n dX4_compare_76 2 rfl rfl ?_
          refine AW.iconst dX4_compare_77 ?_
          refine AW.putZ dX4_compare_78 fp_X4_28 (show sh 76 = (0, 4, [some 77, some 78, none, none, none, none]) from rfl) rfl (Or.inr rfl) ?_
          refine AW.goto 97 dX4_compare_81 (by decide) ?_
          obtain ⟨x97, ex97⟩ : ∃ z : Int, x + 1 = z := ⟨_, rfl⟩
          refine AW.iinc [(2, vi x97), (3, vi far), (0, rf Γ 76), (1, rf Γ k)] dX4_compare_97 1 rfl (by decide) x97 ex97 rfl ?_
          refine AW.goto 18 dX4_compare_100 (by decide) ?_
          refine AW.sub [0, 2, 3] rfl ?_
          refine ih (i + 1) x97 _ (by omega) (by omega) ?_ (by omega)
          simp only [nrF]
          first
            | (rw [if_neg (by omega)]; exact g3)
            | (rw [if_pos (by omega), if_pos (by omega), ← efar2, show (i : Int) = x by omega]; exact g3.put3 _ _ _)
            | (rw [if_pos (by omega), if_neg (by omega), if_pos (by omega)]; exact g3.put1 _)
            | (rw [if_pos (by omega), if_neg (by omega), if_neg (by omega)]; exact g3)
        · refine AW.iload_n dX4_compare_58 0 rfl rfl ?_
          refine AW.aload_n dX4_compare_59 2 rfl rfl ?_
          refine AW.getI dX4_compare_60 fl_X4_25 (show sh 76 = (0, 4, [some 77, some 78, none, none, none, none]) from rfl) rfl ?_
          rw [g3.1.2.1]
          refine AW.icmp_ge 84 dX4_compare_63 (by decide) (by omega) (by omega) (fun c63 => ?_) (fun c63 => ?_)
          · refine AW.iload_n dX4_compare_84 0 rfl rfl ?_
            refine AW.aload_n dX4_compare_85 2 rfl rfl ?_
            refine AW.getI dX4_compare_86 fl_X4_25 (show sh 76 = (0, 4, [some 77, some 78, none, none, none, none]) from rfl) rfl ?_
            rw [g3.1.2.1]
            refine AW.icmp_ne 97 dX4_compare_89 (by decide) (by omega) (by omega) (fun c89 => ?_) (fun c89 => ?_)
            · obtain ⟨x97, ex97⟩ : ∃ z : Int, x + 1 = z := ⟨_, rfl⟩
              refine AW.iinc [(2, vi x97), (3, vi far), (0, rf Γ 76), (1, rf Γ k)] dX4_compare_97 1 rfl (by decide) x97 ex97 rfl ?_
              refine AW.goto 18 dX4_compare_100 (by decide) ?_
              refine AW.sub [0, 2, 3] rfl ?_
              refine ih (i + 1) x97 _ (by omega) (by omega) ?_ (by omega)
              simp only [nrF]
              first
                | (rw [if_neg (by omega)]; exact g3)
                | (rw [if_pos (by omega), if_pos (by omega), ← efar2, show (i : Int) = x by omega]; exact g3.put3 _ _ _)
                | (rw [if_pos (by omega), if_neg (by omega), if_pos (by omega)]; exact g3.put1 _)
                | (rw [if_pos (by omega), if_neg (by omega), if_neg (by omega)]; exact g3)
            · refine AW.aload_n dX4_compare_92 2 rfl rfl ?_
              refine AW.iconst dX4_compare_93 ?_
              refine AW.putZ dX4_compare_94 fp_X4_28 (show sh 76 = (0, 4, [some 77, some 78, none, none, none, none]) from rfl) rfl (Or.inl rfl) ?_
              obtain ⟨x97, ex97⟩ : ∃ z : Int, x + 1 = z := ⟨_, rfl⟩
              refine AW.iinc [(2, vi x97), (3, vi far), (0, rf Γ 76), (1, rf Γ k)] dX4_compare_97 1 rfl (by decide) x97 ex97 rfl ?_
              refine AW.goto 18 dX4_compare_100 (by decide) ?_
              refine AW.sub [0, 2, 3] rfl ?_
              refine ih (i + 1) x97 _ (by omega) (by omega) ?_ (by omega)
              simp only [nrF]
              first
                | (rw [if_neg (by omega)]; exact g3)
                | (rw [if_pos (by omega), if_pos (by omega), ← efar2, show (i : Int) = x by omega]; exact g3.put3 _ _ _)
                | (rw [if_pos (by omega), if_neg (by omega), if_pos (by omega)]; exact g3.put1 _)
                | (rw [if_pos (by omega), if_neg (by omega), if_neg (by omega)]; exact g3)
          · refine AW.aload_n dX4_compare_66 2 rfl rfl ?_
            refine AW.iload_n dX4_compare_67 1 rfl rfl ?_
            refine AW.putI dX4_compare_68 fp_X4_22 (show sh 76 = (0, 4, [some 77, some 78, none, none, none, none]) from rfl) rfl ?_
            refine AW.aload_n dX4_compare_71 2 rfl rfl ?_
            refine AW.iload_n dX4_compare_72 0 rfl rfl ?_
            refine AW.putI dX4_compare_73 fp_X4_25 (show sh 76 = (0, 4, [some 77, some 78, none, none, none, none]) from rfl) rfl ?_
            refine AW.aload_n dX4_compare_76 2 rfl rfl ?_
            refine AW.iconst dX4_compare_77 ?_
            refine AW.putZ dX4_compare_78 fp_X4_28 (show sh 76 = (0, 4, [some 77, some 78, none, none, none, none]) from rfl) rfl (Or.inr rfl) ?_
            refine AW.goto 97 dX4_compare_81 (by decide) ?_
            obtain ⟨x97, ex97⟩ : ∃ z : Int, x + 1 = z := ⟨_, rfl⟩
            refine AW.iinc [(2, vi x97), (3, vi far), (0, rf Γ 76), (1, rf Γ k)] dX4_compare_97 1 rfl (by decide) x97 ex97 rfl ?_
            refine AW.goto 18 dX4_compare_100 (by decide) ?_
            refine AW.sub [0, 2, 3] rfl ?_
            refine ih (i + 1) x97 _ (by omega) (by omega) ?_ (by omega)
            simp only [nrF]
            first
              | (rw [if_neg (by omega)]; exact g3)
              | (rw [if_pos (by omega), if_pos (by omega), ← efar2, show (i : Int) = x by omega]; exact g3.put3 _ _ _)
              | (rw [if_pos (by omega), if_neg (by omega), if_pos (by omega)]; exact g3.put1 _)
              | (rw [if_pos (by omega), if_neg (by omega), if_neg (by omega)]; exact g3)
      · refine AW.goto 97 dX4_compare_39 (by decide) ?_
        obtain ⟨x97, ex97⟩ : ∃ z : Int, x + 1 = z := ⟨_, rfl⟩
        refine AW.iinc [(2, vi x97), (0, rf Γ 76), (1, rf Γ k)] dX4_compare_97 0 rfl (by decide) x97 ex97 rfl ?_
        refine AW.goto 18 dX4_compare_100 (by decide) ?_
        refine AW.sub [0, 1, 2] rfl ?_
        refine ih (i + 1) x97 _ (by omega) (by omega) ?_ (by omega)
        simp only [nrF]
        first
          | (rw [if_neg (by omega)]; exact g3)
          | (rw [if_pos (by omega), if_pos (by omega), ← efar2, show (i : Int) = x by omega]; exact g3.put3 _ _ _)
          | (rw [if_pos (by omega), if_neg (by omega), if_pos (by omega)]; exact g3.put1 _)
          | (rw [if_pos (by omega), if_neg (by omega), if_neg (by omega)]; exact g3)

set_option maxRecDepth 20000 in
theorem C_compare (Γ : GC) (M : Mm) (k : Nat) (hk : St k) (hkd : k + 3 < 76) (r : Nat → Int) (ho : OkR r) (hr : stRel M k r) (hm : 0 ≤ M 76 2 ∧ M 76 2 ≤ 12) (hd1 : D8s (M 77) (M 76 2)) (hd2 : D8s (M 78) (M 76 2)) : Ct Γ uX4_compare [rf Γ 76, rf Γ k] M (fun _ M' => cmpP M M' (nearF (M 77) (M 78) r (M 76 2))) := by
  refine Ct.of (by decide) (Nat.le_of_ble_eq_true rfl) ?_
  show AW Γ uX4_compare 0 [(0, rf Γ 76), (1, rf Γ k)] [] M _
  refine AW.aload_n dX4_compare_0 0 rfl rfl ?_
  refine AW.bipush (z := (-4)) dX4_compare_1 (by decide) ?_
  refine AW.putI dX4_compare_3 fp_X4_22 (show sh 76 = (0, 4, [some 77, some 78, none, none, none, none]) from rfl) rfl ?_
  refine AW.aload_n dX4_compare_6 0 rfl rfl ?_
  refine AW.iconst dX4_compare_7 ?_
  refine AW.putI dX4_compare_8 fp_X4_25 (show sh 76 = (0, 4, [some 77, some 78, none, none, none, none]) from rfl) rfl ?_
  refine AW.aload_n dX4_compare_11 0 rfl rfl ?_
  refine AW.iconst dX4_compare_12 ?_
  refine AW.putZ dX4_compare_13 fp_X4_28 (show sh 76 = (0, 4, [some 77, some 78, none, none, none, none]) from rfl) rfl (Or.inl rfl) ?_
  refine AW.iconst dX4_compare_16 ?_
  refine AW.top (fun x17 ex17 => ?_)
  refine AW.istore_n [(2, vi x17), (0, rf Γ 76), (1, rf Γ k)] dX4_compare_17 rfl (by decide) rfl ?_
  refine AW.sub [0, 1, 2] rfl ?_
  exact comp_loop Γ M k hk hkd r ho hr hm hd1 hd2 7 0 x17 _ (by omega) (by have := ho.2.1; omega) ⟨⟨by rw [up2_i (by decide), up2_i (by decide), up2_s]; rfl, by rw [up2_i (by decide), up2_s]; rfl, by rw [up2_s]; rfl⟩, fun j b1 b2 b3 => by rw [up2_i b3, up2_i b2, up2_i b1], fun a ha => by rw [up2_c ha, up2_c ha, up2_c ha]⟩ (by omega)
