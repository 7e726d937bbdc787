/-! PURE: what the model's memory holds -/
def MSv (I : Nat → Nat → Int32) (d q k : Nat) (S : SA) : Prop := (∀ j, j < k → I d (q + j) = oc (scl S j) ∧ I d (q + (8 + j)) = nI (shd S j) ∧ I d (q + (16 + j)) = nI (sho S j) ∧ I d (q + (24 + j)) = nI (sbo S j)) ∧ I d (q + 32) = nI (syr S) ∧ I d (q + 33) = nI (ssd S)
def HiM (I : Nat → Nat → Int32) (T : TA) (S : SA) (H : List SA) (now : Nat) : Prop := (now < H.length ∧ H.length ≤ 41) ∧ (I 60 43 = nI now ∧ I 60 44 = nI (H.length - 1 - now)) ∧ (∀ i, i < now → MSv I 85 (34 * i) (tk T) (H.getD i sa0)) ∧ (∀ i, now ≤ i → i + 1 < H.length → MSv I 85 (34 * i) (tk T) (H.getD (i + 1) sa0)) ∧ S = H.getD now sa0 ∧ ∀ i, i < H.length → SOk T (H.getD i sa0)
def BxM (I : Nat → Nat → Int32) (T : TA) (Bx : Nat → Option SA) : Prop := ∀ b, b < 3 → match Bx b with
  | none => I 99 b = 0
  | some S => I 99 b = 1 ∧ MSv I 98 (34 * b) (tk T) S ∧ SOk T S
def TpM (I : Nat → Nat → Int32) (tp : List Nat) : Prop := I 60 2 = nI tp.length ∧ tp.length ≤ 1600 ∧ ∀ i, i < tp.length → I 61 i = (nI (tp.getD i 0)).toInt8.toInt32 ∧ tp.getD i 0 < 256
def FtM (I : Nat → Nat → Int32) (fk : Nat) (fp : Option Nat) : Prop := I 60 4 = nI fk ∧ I 60 5 = oc fp
def HEM (I : Nat → Nat → Int32) (i : Nat) (e : HE) : Prop := (I 92 i = nI e.1 ∧ e.1 < 21) ∧ I 93 i = e.2.1 ∧ I 94 i = b2i (e.2.2.1 = true) ∧ (I 95 i = nI e.2.2.2.1 ∧ e.2.2.2.1 ≤ 100000) ∧ (I 96 i = oc e.2.2.2.2 ∧ ∀ t, e.2.2.2.2 = some t → t ≤ 100000)
def HM (I : Nat → Nat → Int32) (Hd : List HE) (tm : Nat) : Prop := Hd.length ≤ 30 ∧ I 60 57 = nI Hd.length ∧ (I 60 58 = nI tm ∧ tm ≤ 100000) ∧ ∀ i, i < Hd.length → HEM I i (Hd.getD i he0)
def RM (I : Nat → Nat → Int32) (b : Nat) (A : AS) : Prop := MO I b (aT A) (aS A) ∧ SOk (aT A) (aS A) ∧ HiM I (aT A) (aS A) (aH A) (aN A) ∧ RowM I (aL A) ∧ HM I (aHd A) (aTm A) ∧ BxM I (aT A) (aB A) ∧ TpM I (aTp A) ∧ FtM I (aFk A) (aFp A) ∧ I 60 40 = -1
section MRel
variable {I I' : Nat → Nat → Int32} {T : TA} {S : SA} {b : Nat} {A : AS}
theorem MSv_of {d q k : Nat} (hk : k ≤ 8) (h : MSv I d q k S) (hI : ∀ t, t < 34 → I' d (q + t) = I d (q + t)) : MSv I' d q k S := by
  obtain ⟨h1, h2, h3⟩ := h
  refine ⟨fun j hj => ?_, ?_, ?_⟩
  · rw [hI _ (by omega), hI _ (by omega), hI _ (by omega), hI _ (by omega)]; exact h1 j hj
  · rw [hI _ (by omega)]; exact h2
  · rw [hI _ (by omega)]; exact h3
theorem HiM_of {H : List SA} {now : Nat} (hk : tk T ≤ 8) (h : HiM I T S H now) (h1 : I' 60 43 = I 60 43) (h2 : I' 60 44 = I 60 44) (h3 : ∀ j, I' 85 j = I 85 j) : HiM I' T S H now := by
  obtain ⟨g1, g2, g3, g4, g5⟩ := h
  exact ⟨g1, ⟨h1.trans g2.1, h2.trans g2.2⟩, fun i hi => MSv_of hk (g3 i hi) (fun t _ => h3 _), fun i a c => MSv_of hk (g4 i a c) (fun t _ => h3 _), g5⟩
theorem RowM_of {l : List Int32} (h : RowM I l) (h1 : I' 60 48 = I 60 48) (h2 : ∀ j, I' 87 j = I 87 j) : RowM I' l := ⟨h1.trans h.1, h.2.1, fun i hi => by rw [h2]; exact h.2.2 i hi⟩
theorem HM_of {Hd : List HE} {tm : Nat} (h : HM I Hd tm) (h1 : I' 60 57 = I 60 57) (h2 : I' 60 58 = I 60 58) (h3 : ∀ c j, 92 ≤ c → c ≤ 96 → I' c j = I c j) : HM I' Hd tm := by
  obtain ⟨g1, g2, g3, g4⟩ := h
  refine ⟨g1, h1.trans g2, ⟨h2.trans g3.1, g3.2⟩, fun i hi => ?_⟩
  obtain ⟨⟨w1, w1'⟩, w2, w3, ⟨w4, w4'⟩, ⟨w5, w5'⟩⟩ := g4 i hi
  exact ⟨⟨by rw [h3 92 i (by decide) (by decide)]; exact w1, w1'⟩, by rw [h3 93 i (by decide) (by decide)]; exact w2, by rw [h3 94 i (by decide) (by decide)]; exact w3, ⟨by rw [h3 95 i (by decide) (by decide)]; exact w4, w4'⟩, ⟨by rw [h3 96 i (by decide) (by decide)]; exact w5, w5'⟩⟩
theorem BxM_of {Bx : Nat → Option SA} (hk : tk T ≤ 8) (h : BxM I T Bx) (h1 : ∀ j, I' 98 j = I 98 j) (h2 : ∀ j, I' 99 j = I 99 j) : BxM I' T Bx := by
  intro c hc
  have h3 := h c hc
  cases e : Bx c with
  | none =>
    rw [e] at h3
    simp only at h3 ⊢
    rw [h2]; exact h3
  | some S =>
    rw [e] at h3
    simp only at h3 ⊢
    exact ⟨by rw [h2]; exact h3.1, MSv_of hk h3.2.1 (fun t _ => h1 _), h3.2.2⟩
theorem TpM_of {tp : List Nat} (h : TpM I tp) (h1 : I' 60 2 = I 60 2) (h2 : ∀ j, I' 61 j = I 61 j) : TpM I' tp := ⟨h1.trans h.1, h.2.1, fun i hi => by rw [h2]; exact h.2.2 i hi⟩
theorem FtM_of {fk : Nat} {fp : Option Nat} (h : FtM I fk fp) (h1 : I' 60 4 = I 60 4) (h2 : I' 60 5 = I 60 5) : FtM I' fk fp := ⟨h1.trans h.1, h2.trans h.2⟩
theorem RM_q (h : RM I b A) (q : QMf I I') : RM I' b A := by
  obtain ⟨h1, h2, h3, h4, h5, h6, h7, h8, h9⟩ := h
  have k8 := h1.k8
  have f := fun j a c d => q.2.2 j a c d
  have g := fun c j (a1 : c ≠ 60) (a2 : c ≠ 83) (a3 : ¬ mscr c) => q.1 c j a1 a2 a3
  exact ⟨MO_QM h1 q, h2, HiM_of k8 h3 (f 43 (by decide) (by decide) (by decide)) (f 44 (by decide) (by decide) (by decide)) (fun j => g 85 j (by decide) (by decide) (by unfold mscr; omega)), RowM_of h4 (f 48 (by decide) (by decide) (by decide)) (fun j => g 87 j (by decide) (by decide) (by unfold mscr; omega)), HM_of h5 (f 57 (by decide) (by decide) (by decide)) (f 58 (by decide) (by decide) (by decide)) (fun c j c1 c2 => g c j (by omega) (by omega) (by unfold mscr; omega)), BxM_of k8 h6 (fun j => g 98 j (by decide) (by decide) (by unfold mscr; omega)) (fun j => g 99 j (by decide) (by decide) (by unfold mscr; omega)), TpM_of h7 (f 2 (by decide) (by decide) (by decide)) (fun j => g 61 j (by decide) (by decide) (by unfold mscr; omega)), FtM_of h8 (f 4 (by decide) (by decide) (by decide)) (f 5 (by decide) (by decide) (by decide)), (f 40 (by decide) (by decide) (by decide)).trans h9⟩
theorem RM_row {l : List Int32} (h : RM I b A) (q : QLf I I') (hr : RowM I' l) : RM I' b (setL A l) := by
  obtain ⟨h1, h2, h3, h4, h5, h6, h7, h8, h9⟩ := h
  have k8 := h1.k8
  have f := fun j a c d e => q.2.2 j a c d e
  have g := fun c j (a1 : c ≠ 60) (a2 : c ≠ 83) (a3 : c ≠ 87) (a4 : ¬ mscr c) => q.1 c j a1 a2 a3 a4
  exact ⟨⟨h1.1, MT_of h1.2.1 (f 31 (by decide) (by decide) (by decide) (by decide)) (fun c j c1 c2 => g c j (by omega) (by omega) (by omega) (by unfold mscr; omega)), h1.2.2.1, MA_34 k8 h1.2.2.2 q.2.1⟩, h2, HiM_of k8 h3 (f 43 (by decide) (by decide) (by decide) (by decide)) (f 44 (by decide) (by decide) (by decide) (by decide)) (fun j => g 85 j (by decide) (by decide) (by decide) (by unfold mscr; omega)), hr, HM_of h5 (f 57 (by decide) (by decide) (by decide) (by decide)) (f 58 (by decide) (by decide) (by decide) (by decide)) (fun c j c1 c2 => g c j (by omega) (by omega) (by omega) (by unfold mscr; omega)), BxM_of k8 h6 (fun j => g 98 j (by decide) (by decide) (by decide) (by unfold mscr; omega)) (fun j => g 99 j (by decide) (by decide) (by decide) (by unfold mscr; omega)), TpM_of h7 (f 2 (by decide) (by decide) (by decide) (by decide)) (fun j => g 61 j (by decide) (by decide) (by decide) (by unfold mscr; omega)), FtM_of h8 (f 4 (by decide) (by decide) (by decide) (by decide)) (f 5 (by decide) (by decide) (by decide) (by decide)), (f 40 (by decide) (by decide) (by decide) (by decide)).trans h9⟩
end MRel
