/-! PURE: class and model, side by side -/
def UQ (F G : List Value → mM → Option mR) (as : List Value) : Prop := ∀ (I : Nat → Nat → Int32) (J : Nat → Nat → Int64) (f b : Nat) (A : AS), RC I A → RM I b A → ∃ v I1 J1 f1 I2 J2 f2 b2 A2, F (.ref 0 :: as) (mm I J f) = some (some (.int v), mm I1 J1 f1) ∧ G (.ref 60 :: as) (mm I1 J1 f1) = some (some (.int v), mm I2 J2 f2) ∧ RC I2 A2 ∧ RM I2 b2 A2
section Uni
variable {n : Nat} {I I' : Nat → Nat → Int32} {A : AS} {b : Nat}
theorem RM_lo (h : RM I b A) (l : lo I I') : RM I' b A := by
  obtain ⟨h1, h2, h3, h4, h5, h6, h7, h8, h9⟩ := h
  have k8 := h1.k8
  exact ⟨⟨h1.1, MT_of h1.2.1 (l 60 31 (by decide)) (fun c j c1 _ => l c j (by omega)), h1.2.2.1, MA_34 k8 h1.2.2.2 (fun j _ => l 83 j (by decide))⟩, h2, HiM_of k8 h3 (l 60 43 (by decide)) (l 60 44 (by decide)) (fun j => l 85 j (by decide)), RowM_of h4 (l 60 48 (by decide)) (fun j => l 87 j (by decide)), HM_of h5 (l 60 57 (by decide)) (l 60 58 (by decide)) (fun c j c1 _ => l c j (by omega)), BxM_of k8 h6 (fun j => l 98 j (by decide)) (fun j => l 99 j (by decide)), TpM_of h7 (l 60 2 (by decide)) (fun j => l 61 j (by decide)), FtM_of h8 (l 60 4 (by decide)) (l 60 5 (by decide)), (l 60 40 (by decide)).trans h9⟩
theorem RC_hi (h : RC I A) (m : hiM I I') : RC I' A := RC_of h (fun c j hc _ => m c j hc)
theorem lo_rf : lo I I := fun _ _ _ => rfl
theorem hi_rf : hiM I I := fun _ _ _ => rfl
theorem hi_QM (q : QMf I I') : hiM I I' := fun c j hc => q.1 c j (by omega) (by omega) (by unfold mscr; omega)
theorem hi_QL (q : QLf I I') : hiM I I' := fun c j hc => q.1 c j (by omega) (by omega) (by omega) (by unfold mscr; omega)
theorem QM_MF (m : MF I I') : QMf I I' := ⟨fun c j a1 a2 a3 => m.1 c j a1 (fun z => a3 (Or.inl z)), fun j _ => m.1 83 j (by decide) (by decide), fun j a1 a2 _ => m.2 j a1 a2⟩
/-- both at once: each from its own -/
theorem UQ_mk {F G : List Value → mM → Option mR} {as : List Value} (h : ∀ (I : Nat → Nat → Int32) (J : Nat → Nat → Int64) (f b : Nat) (A : AS), RC I A → RM I b A → ∃ v A2, (∃ I1 J1 f1, F (.ref 0 :: as) (mm I J f) = some (some (.int v), mm I1 J1 f1) ∧ RC I1 A2 ∧ lo I I1) ∧ ∀ (I1 : Nat → Nat → Int32) (J1 : Nat → Nat → Int64) (f1 : Nat), RM I1 b A → ∃ I2 J2 b2, G (.ref 60 :: as) (mm I1 J1 f1) = some (some (.int v), mm I2 J2 f1) ∧ RM I2 b2 A2 ∧ hiM I1 I2) : UQ F G as := by
  intro I J f b A hc hm
  obtain ⟨v, A2, ⟨I1, J1, f1, k1, k2, k3⟩, k4⟩ := h I J f b A hc hm
  obtain ⟨I2, J2, b2, r1, r2, r3⟩ := k4 I1 J1 f1 (RM_lo hm k3)
  exact ⟨v, I1, J1, f1, I2, J2, f1, b2, A2, k1, r1, RC_hi k2 r3, r2⟩
theorem uq_feed (hn : 2000 < n) (p q r s t : Int32) : UQ (FX11_feed n) (FX12_feed n) [.int p, .int q, .int r, .int s, .int t] := UQ_mk fun I J f b A hc hm => by
  obtain ⟨I1, k1, k2, k3⟩ := c_feed (n := n) (by omega) J f hc p q r s t
  refine ⟨_, _, ⟨I1, J, f, k1, k2, k3⟩, fun I2 J2 f2 h2 => ?_⟩
  obtain ⟨I3, r1, r2, r3⟩ := m_feed (n := n) (by omega) J2 f2 h2 p q r s t
  exact ⟨I3, J2, b, r1, r2, r3⟩
theorem uq_end (hn : 2000 < n) (p : Int32) : UQ (FX11_end n) (FX12_end n) [.int p] := UQ_mk fun I J f b A hc hm => by
  obtain ⟨I1, k1, k2, k3⟩ := c_end n J f hc p
  refine ⟨_, _, ⟨I1, J, f, k1, k2, k3⟩, fun I2 J2 f2 h2 => ?_⟩
  obtain ⟨I3, r1, r2, r3⟩ := m_end n J2 f2 h2 p
  exact ⟨I3, J2, b, r1, r2, r3⟩
theorem uq_year (hn : 2000 < n) : UQ (FX11_year n) (FX12_year n) [] := UQ_mk fun I J f b A hc hm => by
  obtain ⟨I1, k1, k2, k3⟩ := c_year (n := n) (by omega) J f hc
  refine ⟨_, _, ⟨I1, J, f, k1, k2, k3⟩, fun I2 J2 f2 h2 => ?_⟩
  obtain ⟨I3, r1, r2, r3⟩ := m_year (n := n) (by omega) J2 f2 h2
  exact ⟨I3, J2, b, r1, r2, r3⟩
theorem uq_let (hn : 2000 < n) (p : Int32) : UQ (FX11_let n) (FX12_let n) [.int p] := UQ_mk fun I J f b A hc hm => by
  obtain ⟨I1, k1, k2, k3⟩ := c_let (n := n) (by omega) J f hc p
  refine ⟨_, _, ⟨I1, J, f, k1, k2, k3⟩, fun I2 J2 f2 h2 => ?_⟩
  obtain ⟨I3, r1, r2, r3⟩ := m_let (n := n) (by omega) J2 f2 h2 p
  exact ⟨I3, J2, b, r1, r2, r3⟩
theorem uq_tow (hn : 2000 < n) (p : Int32) : UQ (FX11_tow n) (FX12_tow n) [.int p] := UQ_mk fun I J f b A hc hm => by
  obtain ⟨I1, k1, k2, k3⟩ := c_tow (n := n) (by omega) J f hc p
  refine ⟨_, _, ⟨I1, J, f, k1, k2, k3⟩, fun I2 J2 f2 h2 => ?_⟩
  obtain ⟨I3, r1, r2, r3⟩ := m_tow (n := n) (by omega) J2 f2 h2 p
  exact ⟨I3, J2, b, r1, r2, r3⟩
theorem uq_polish (hn : 2000 < n) (p : Int32) : UQ (FX11_polish n) (FX12_polish n) [.int p] := UQ_mk fun I J f b A hc hm => by
  obtain ⟨I1, k1, k2, k3⟩ := c_polish (n := n) (by omega) J f hc p
  refine ⟨_, _, ⟨I1, J, f, k1, k2, k3⟩, fun I2 J2 f2 h2 => ?_⟩
  obtain ⟨I3, r1, r2, r3⟩ := m_polish (n := n) (by omega) J2 f2 h2 p
  exact ⟨I3, J2, b, r1, r2, r3⟩
theorem uq_steer (hn : 2000 < n) (p q : Int32) : UQ (FX11_steer n) (FX12_steer n) [.int p, .int q] := UQ_mk fun I J f b A hc hm => by
  obtain ⟨I1, k1, k2, k3⟩ := c_steer (n := n) (by omega) J f hc p q
  refine ⟨_, _, ⟨I1, J, f, k1, k2, k3⟩, fun I2 J2 f2 h2 => ?_⟩
  obtain ⟨I3, r1, r2, r3⟩ := m_steer (n := n) (by omega) J2 f2 h2 p q
  exact ⟨I3, J2, b, r1, r2, r3⟩
theorem uq_put (hn : 2000 < n) (p q : Int32) : UQ (FX11_put n) (FX12_put n) [.int p, .int q] := UQ_mk fun I J f b A hc hm => by
  obtain ⟨I1, k1, k2, k3⟩ := c_put (n := n) (by omega) J f hc p q
  refine ⟨_, _, ⟨I1, J, f, k1, k2, k3⟩, fun I2 J2 f2 h2 => ?_⟩
  obtain ⟨I3, r1, r2, r3⟩ := m_put (n := n) (by omega) J2 f2 h2 p q
  exact ⟨I3, J2, b, r1, r2, r3⟩
theorem uq_undo (hn : 2000 < n) : UQ (FX11_undo n) (FX12_undo n) [] := UQ_mk fun I J f b A hc hm => by
  obtain ⟨I1, k1, k2, k3⟩ := c_undo (n := n) (by omega) J f hc
  refine ⟨_, _, ⟨I1, J, f, k1, k2, k3⟩, fun I2 J2 f2 h2 => ?_⟩
  obtain ⟨I3, r1, r2, r3⟩ := m_undo (n := n) (by omega) J2 f2 h2
  exact ⟨I3, J2, b, r1, r2, r3⟩
theorem uq_redo (hn : 2000 < n) : UQ (FX11_redo n) (FX12_redo n) [] := UQ_mk fun I J f b A hc hm => by
  obtain ⟨I1, k1, k2, k3⟩ := c_redo (n := n) (by omega) J f hc
  refine ⟨_, _, ⟨I1, J, f, k1, k2, k3⟩, fun I2 J2 f2 h2 => ?_⟩
  obtain ⟨I3, r1, r2, r3⟩ := m_redo (n := n) (by omega) J2 f2 h2
  exact ⟨I3, J2, b, r1, r2, r3⟩
theorem uq_untell (hn : 2000 < n) (p : Int32) : UQ (FX11_untell n) (FX12_untell n) [.int p] := UQ_mk fun I J f b A hc hm => by
  obtain ⟨I1, k1, k2, k3⟩ := c_untell n J f hc p
  refine ⟨_, _, ⟨I1, J, f, k1, k2, k3⟩, fun I2 J2 f2 h2 => ?_⟩
  obtain ⟨I3, r1, r2, r3⟩ := m_untell n J2 f2 h2 p
  exact ⟨I3, J2, b, r1, r2, r3⟩
theorem uq_later (hn : 2000 < n) (p : Int32) : UQ (FX11_later n) (FX12_later n) [.int p] := UQ_mk fun I J f b A hc hm => by
  obtain ⟨I1, k1, k2, k3⟩ := c_later n J f hc p
  refine ⟨_, _, ⟨I1, J, f, k1, k2, k3⟩, fun I2 J2 f2 h2 => ?_⟩
  obtain ⟨I3, r1, r2, r3⟩ := m_later n J2 f2 h2 p
  exact ⟨I3, J2, b, r1, r2, r3⟩
theorem uq_image (hn : 2000 < n) (p : Int32) : UQ (FX11_image n) (FX12_image n) [.int p] := UQ_mk fun I J f b A hc hm => by
  obtain ⟨I1, k1, k2, k3⟩ := c_image (n := n) (by omega) J f hc p
  refine ⟨_, _, ⟨I1, J, f, k1, k2, k3⟩, fun I2 J2 f2 h2 => ?_⟩
  obtain ⟨I3, r1, r2, r3⟩ := m_image (n := n) (by omega) J2 f2 h2 p
  exact ⟨I3, J2, b, r1, r2, r3⟩
theorem uq_back (hn : 2000 < n) (p : Int32) : UQ (FX11_back n) (FX12_back n) [.int p] := UQ_mk fun I J f b A hc hm => by
  obtain ⟨I1, k1, k2, k3⟩ := c_back (n := n) (by omega) J f hc p
  refine ⟨_, _, ⟨I1, J, f, k1, k2, k3⟩, fun I2 J2 f2 h2 => ?_⟩
  obtain ⟨I3, r1, r2, r3⟩ := m_back (n := n) (by omega) J2 f2 h2 p
  exact ⟨I3, J2, b, r1, r2, r3⟩
theorem uq_jam (hn : 2000 < n) : UQ (FX11_jam n) (FX12_jam n) [] := UQ_mk fun I J f b A hc hm => by
  obtain ⟨I1, J1, f1, k1, k2, k3⟩ := c_jam (n := n) hn J f hc
  refine ⟨_, _, ⟨I1, J1, f1, k1, k2, k3⟩, fun I2 J2 f2 h2 => ?_⟩
  obtain ⟨I3, J3, b3, r1, r2, r3⟩ := m_jam (n := n) hn J2 f2 h2
  exact ⟨I3, J3, b3, r1, r2, r3⟩
theorem uq_heard (p q : Int32) (bb : Bool) : UQ (FX11_heard n) (FX12_heard n) [.int p, .int q, .int (b2i (bb = true))] := UQ_mk fun I J f b A hc hm => by
  obtain ⟨I1, k1, k2, k3⟩ := c_heard n J f hc p q bb
  refine ⟨_, _, ⟨I1, J, f, k1, k2, k3⟩, fun I2 J2 f2 h2 => ?_⟩
  obtain ⟨I3, r1, r2, r3⟩ := m_heard n J2 f2 h2 p q bb
  exact ⟨I3, J2, b, r1, r2, r3⟩
theorem uq_fault (hn : 2000 < n) (p : Int32) : UQ (FX11_fault n) (FX12_fault n) [.int p] := UQ_mk fun I J f b A hc hm =>
  ⟨_, A, ⟨I, J, f, c_fault n J f hc p, hc, lo_rf⟩, fun I2 J2 f2 h2 => ⟨I2, J2, b, m_fault n J2 f2 h2 p, h2, hi_rf⟩⟩
theorem uq_about (hn : 2000 < n) (p : Int32) : UQ (FX11_about n) (FX12_about n) [.int p] := UQ_mk fun I J f b A hc hm =>
  ⟨_, A, ⟨I, J, f, c_about (n := n) (by omega) J f hc p, hc, lo_rf⟩, fun I2 J2 f2 h2 => ⟨I2, J2, b, m_about (n := n) (by omega) J2 f2 h2 p, h2, hi_rf⟩⟩
theorem uq_lies (p : Int32) : UQ (FX11_lies n) (FX12_lies n) [.int p] := UQ_mk fun I J f b A hc hm =>
  ⟨_, A, ⟨I, J, f, c_lies n J f hc.2.2.2.1 p, hc, lo_rf⟩, fun I2 J2 f2 h2 => ⟨I2, J2, b, m_lies n J2 f2 h2.2.2.2.1 p, h2, hi_rf⟩⟩
theorem uq_car (hn : 2000 < n) (p q : Int32) : UQ (FX11_car n) (FX12_car n) [.int p, .int q] := UQ_mk fun I J f b A hc hm => by
  have k1 := c_car (n := n) (by omega) J f hc.1 p q
  refine ⟨_, A, ⟨I, J, f, k1, hc, lo_rf⟩, fun I2 J2 f2 h2 => ?_⟩
  exact ⟨I2, J2, b, m_car (n := n) (by omega) J2 f2 h2.1 p q, h2, hi_rf⟩
theorem uq_spot (hn : 2000 < n) (p : Int32) : UQ (FX11_spot n) (FX12_spot n) [.int p] := UQ_mk fun I J f b A hc hm => by
  have k1 := c_spot (n := n) (by omega) J f hc.1 p
  refine ⟨_, A, ⟨I, J, f, k1, hc, lo_rf⟩, fun I2 J2 f2 h2 => ?_⟩
  exact ⟨I2, J2, b, m_spot (n := n) (by omega) J2 f2 h2.1 p, h2, hi_rf⟩
theorem uq_worth (hn : 2000 < n) (p : Int32) : UQ (FX11_worth n) (FX12_worth n) [.int p] := UQ_mk fun I J f b A hc hm => by
  obtain ⟨I1, k1, k2⟩ := c_worth (n := n) (by omega) J f hc.1 p
  refine ⟨_, A, ⟨I1, J, f, k1, RC_of hc (fun c j _ hs => k2 c j (by unfold scr at hs; omega) (by unfold scr at hs; omega)), fun c j hc => k2 c j (by omega) (by omega)⟩, fun I2 J2 f2 h2 => ?_⟩
  obtain ⟨I3, r1, r2⟩ := m_worth (n := n) (by omega) J2 f2 h2.1 p
  exact ⟨I3, J2, b, r1, RM_q h2 (QM_MF r2), hi_QM (QM_MF r2)⟩
theorem uq_free (hn : 2000 < n) : UQ (FX11_free n) (FX12_free n) [] := UQ_mk fun I J f b A hc hm => by
  have k1 := c_free (n := n) (by omega) J f hc.1
  refine ⟨_, A, ⟨I, J, f, k1, hc, lo_rf⟩, fun I2 J2 f2 h2 => ?_⟩
  exact ⟨I2, J2, b, m_free (n := n) (by omega) J2 f2 h2.1, h2, hi_rf⟩
theorem uq_loose (hn : 2000 < n) : UQ (FX11_loose n) (FX12_loose n) [] := UQ_mk fun I J f b A hc hm => by
  obtain ⟨I1, k1, k2⟩ := c_loose (n := n) (by omega) J f hc.1
  refine ⟨_, A, ⟨I1, J, f, k1, RC_of hc (fun c j _ hs => k2 c j (by unfold scr at hs; omega) (by unfold scr at hs; omega)), fun c j hc => k2 c j (by omega) (by omega)⟩, fun I2 J2 f2 h2 => ?_⟩
  obtain ⟨I3, r1, r2⟩ := m_loose (n := n) (by omega) J2 f2 h2.1
  exact ⟨I3, J2, b, r1, RM_q h2 r2, hi_QM r2⟩
theorem uq_ring (hn : 2000 < n) (p : Int32) : UQ (FX11_ring n) (FX12_ring n) [.int p] := UQ_mk fun I J f b A hc hm => by
  obtain ⟨I1, k1, k2⟩ := c_ring (n := n) (by omega) J f hc.1 p
  refine ⟨_, A, ⟨I1, J, f, k1, RC_of hc (fun c j _ hs => k2 c j (by unfold scr at hs; omega) (by unfold scr at hs; omega)), fun c j hc => k2 c j (by omega) (by omega)⟩, fun I2 J2 f2 h2 => ?_⟩
  obtain ⟨I3, r1, r2⟩ := m_ring (n := n) (by omega) J2 f2 h2.1 p
  exact ⟨I3, J2, b, r1, RM_q h2 r2, hi_QM r2⟩
theorem uq_tows (hn : 2000 < n) (p : Int32) : UQ (FX11_tows n) (FX12_tows n) [.int p] := UQ_mk fun I J f b A hc hm => by
  obtain ⟨I1, k1, k2⟩ := c_tows (n := n) (by omega) J f hc.1 p
  refine ⟨_, A, ⟨I1, J, f, k1, RC_of hc (fun c j _ hs => k2 c j (by unfold scr at hs; omega) (by unfold scr at hs; omega)), fun c j hc => k2 c j (by omega) (by omega)⟩, fun I2 J2 f2 h2 => ?_⟩
  obtain ⟨I3, r1, r2⟩ := m_tows (n := n) (by omega) J2 f2 h2.1 p
  exact ⟨I3, J2, b, r1, RM_q h2 r2, hi_QM r2⟩
theorem uq_ahead (hn : 2000 < n) (p : Int32) : UQ (FX11_ahead n) (FX12_ahead n) [.int p] := UQ_mk fun I J f b A hc hm => by
  obtain ⟨I1, k1, k2⟩ := c_ahead (n := n) (by omega) J f hc.1 p
  refine ⟨_, A, ⟨I1, J, f, k1, RC_of hc (fun c j _ hs => k2 c j (by unfold scr at hs; omega) (by unfold scr at hs; omega)), fun c j hc => k2 c j (by omega) (by omega)⟩, fun I2 J2 f2 h2 => ?_⟩
  obtain ⟨I3, r1, r2⟩ := m_ahead (n := n) (by omega) J2 f2 h2.1 p
  exact ⟨I3, J2, b, r1, RM_q h2 r2, hi_QM r2⟩
theorem uq_turn (hn : 2000 < n) (p : Int32) : UQ (FX11_turn n) (FX12_turn n) [.int p] := UQ_mk fun I J f b A hc hm => by
  obtain ⟨I1, k1, k2⟩ := c_turn (n := n) (by omega) J f hc.1 p
  refine ⟨_, A, ⟨I1, J, f, k1, RC_of hc (fun c j _ hs => k2 c j (by unfold scr at hs; omega) (by unfold scr at hs; omega) (by unfold scr at hs; omega) (by unfold scr at hs; omega)), fun c j hc => k2 c j (by omega) (by omega) (by omega) (by omega)⟩, fun I2 J2 f2 h2 => ?_⟩
  exact ⟨I2, J2, b, m_turn (n := n) (by omega) J2 f2 h2.1 p, h2, hi_rf⟩
theorem uq_lines (hn : 2000 < n) (p : Int32) : UQ (FX11_lines n) (FX12_lines n) [.int p] := UQ_mk fun I J f b A hc hm => by
  have k1 := c_lines (n := n) (by omega) J f hc.1 p
  refine ⟨_, A, ⟨I, J, f, k1, hc, lo_rf⟩, fun I2 J2 f2 h2 => ?_⟩
  exact ⟨I2, J2, b, m_lines (n := n) (by omega) J2 f2 h2.1 p, h2, hi_rf⟩
theorem uq_lot (hn : 2000 < n) (p : Int32) : UQ (FX11_lot n) (FX12_lot n) [.int p] := UQ_mk fun I J f b A hc hm => by
  obtain ⟨I1, k1, k2⟩ := c_lot (n := n) (by omega) J f hc.1 p
  refine ⟨_, A, ⟨I1, J, f, k1, RC_of hc (fun c j _ hs => k2 c j (by unfold scr at hs; omega) (by unfold scr at hs; omega) (by unfold scr at hs; omega)), fun c j hc => k2 c j (by omega) (by omega) (by omega)⟩, fun I2 J2 f2 h2 => ?_⟩
  exact ⟨I2, J2, b, m_lot (n := n) (by omega) J2 f2 h2.1 p, h2, hi_rf⟩
theorem uq_until (hn : 2000 < n) (p : Int32) : UQ (FX11_until n) (FX12_until n) [.int p] := UQ_mk fun I J f b A hc hm => by
  obtain ⟨I1, k1, k2⟩ := c_until (n := n) (by omega) J f hc.1 p
  refine ⟨_, A, ⟨I1, J, f, k1, RC_of hc (fun c j _ hs => k2 c j (by unfold scr at hs; omega) (by unfold scr at hs; omega)), fun c j hc => k2 c j (by omega) (by omega)⟩, fun I2 J2 f2 h2 => ?_⟩
  obtain ⟨I3, r1, r2⟩ := m_until (n := n) (by omega) J2 f2 h2.1 p
  exact ⟨I3, J2, b, r1, RM_q h2 r2, hi_QM r2⟩
theorem uq_exchange (hn : 2000 < n) (p : Int32) : UQ (FX11_exchange n) (FX12_exchange n) [.int p] := UQ_mk fun I J f b A hc hm => by
  obtain ⟨I1, k1, k2⟩ := c_exchange (n := n) (by omega) J f hc.1 p
  refine ⟨_, A, ⟨I1, J, f, k1, RC_of hc (fun c j _ hs => k2 c j (by unfold scr at hs; omega) (by unfold scr at hs; omega) (by unfold scr at hs; omega) (by unfold scr at hs; omega)), fun c j hc => k2 c j (by omega) (by omega) (by omega) (by omega)⟩, fun I2 J2 f2 h2 => ?_⟩
  exact ⟨I2, J2, b, m_exchange (n := n) (by omega) J2 f2 h2.1 p, h2, hi_rf⟩
theorem uq_dear (hn : 2000 < n) (p : Int32) : UQ (FX11_dear n) (FX12_dear n) [.int p] := UQ_mk fun I J f b A hc hm => by
  obtain ⟨I1, k1, k2⟩ := c_dear (n := n) (by omega) J f hc.1 p
  refine ⟨_, A, ⟨I1, J, f, k1, RC_of hc (fun c j _ hs => k2 c j (by unfold scr at hs; omega) (by unfold scr at hs; omega)), fun c j hc => k2 c j (by omega) (by omega)⟩, fun I2 J2 f2 h2 => ?_⟩
  obtain ⟨I3, r1, r2⟩ := m_dear (n := n) (by omega) J2 f2 h2.1 p
  exact ⟨I3, J2, b, r1, RM_q h2 (QM_MF r2), hi_QM (QM_MF r2)⟩
theorem uq_noise (hn : 2000 < n) : UQ (FX11_noise n) (FX12_noise n) [] := UQ_mk fun I J f b A hc hm => by
  have k1 := c_noise (n := n) (by omega) J f hc.1
  refine ⟨_, A, ⟨I, J, f, k1, hc, lo_rf⟩, fun I2 J2 f2 h2 => ?_⟩
  exact ⟨I2, J2, b, m_noise (n := n) (by omega) J2 f2 h2.1, h2, hi_rf⟩
theorem uq_softer (hn : 2000 < n) (p : Int32) : UQ (FX11_softer n) (FX12_softer n) [.int p] := UQ_mk fun I J f b A hc hm => by
  obtain ⟨I1, k1, k2⟩ := c_softer (n := n) (by omega) J f hc.1 p
  refine ⟨_, A, ⟨I1, J, f, k1, RC_of hc (fun c j _ hs => k2 c j (by unfold scr at hs; omega) (by unfold scr at hs; omega)), fun c j hc => k2 c j (by omega) (by omega)⟩, fun I2 J2 f2 h2 => ?_⟩
  obtain ⟨I3, r1, r2⟩ := m_softer (n := n) (by omega) J2 f2 h2.1 p
  exact ⟨I3, J2, b, r1, RM_q h2 (QM_MF r2), hi_QM (QM_MF r2)⟩
theorem uq_price (hn : 2000 < n) : UQ (FX11_price n) (FX12_price n) [] := UQ_mk fun I J f b A hc hm => by
  obtain ⟨I1, k1, k2⟩ := c_price (n := n) (by omega) J f hc.1
  refine ⟨_, A, ⟨I1, J, f, k1, RC_of hc (fun c j _ hs => k2 c j (by unfold scr at hs; omega) (by unfold scr at hs; omega)), fun c j hc => k2 c j (by omega) (by omega)⟩, fun I2 J2 f2 h2 => ?_⟩
  obtain ⟨I3, r1, r2⟩ := m_price (n := n) (by omega) J2 f2 h2.1
  exact ⟨I3, J2, b, r1, RM_q h2 (QM_MF r2), hi_QM (QM_MF r2)⟩
theorem uq_will (hn : 2000 < n) (p : Int32) : UQ (FX11_will n) (FX12_will n) [.int p] := UQ_mk fun I J f b A hc hm => by
  obtain ⟨I1, k1, k2⟩ := c_will (n := n) (by omega) J f hc.1 (by have := hc.2.1.2; omega) p
  refine ⟨_, A, ⟨I1, J, f, k1, RC_of hc (fun c j _ hs => k2 c j (by unfold scr at hs; omega) (by unfold scr at hs; omega) (by unfold scr at hs; omega)), fun c j hc => k2 c j (by omega) (by omega) (by omega)⟩, fun I2 J2 f2 h2 => ?_⟩
  obtain ⟨I3, r1, r2⟩ := m_will (n := n) (by omega) J2 f2 h2.1 (by have := h2.2.1.2; omega) p
  exact ⟨I3, J2, b, r1, RM_q h2 r2, hi_QM r2⟩
theorem uq_hoot (hn : 2000 < n) (p q : Int32) : UQ (FX11_hoot n) (FX12_hoot n) [.int p, .int q] := UQ_mk fun I J f b A hc hm => by
  obtain ⟨I1, k1, k2⟩ := c_hoot (n := n) (by omega) J f hc.1 (by have := hc.2.1.2; omega) p q
  refine ⟨_, A, ⟨I1, J, f, k1, RC_of hc (fun c j _ hs => k2 c j (by unfold scr at hs; omega) (by unfold scr at hs; omega) (by unfold scr at hs; omega)), fun c j hc => k2 c j (by omega) (by omega) (by omega)⟩, fun I2 J2 f2 h2 => ?_⟩
  obtain ⟨I3, r1, r2⟩ := m_hoot (n := n) (by omega) J2 f2 h2.1 (by have := h2.2.1.2; omega) p q
  exact ⟨I3, J2, b, r1, RM_q h2 r2, hi_QM r2⟩
theorem uq_vintage (hn : 2000 < n) (p : Int32) : UQ (FX11_vintage n) (FX12_vintage n) [.int p] := UQ_mk fun I J f b A hc hm => by
  obtain ⟨I1, k1, k2⟩ := c_vintage (n := n) (by omega) J f hc.1 (by have := hc.2.1.2; omega) p
  refine ⟨_, A, ⟨I1, J, f, k1, RC_of hc (fun c j _ hs => k2 c j (by unfold scr at hs; omega) (by unfold scr at hs; omega) (by unfold scr at hs; omega)), fun c j hc => k2 c j (by omega) (by omega) (by omega)⟩, fun I2 J2 f2 h2 => ?_⟩
  obtain ⟨I3, r1, r2⟩ := m_vintage (n := n) (by omega) J2 f2 h2.1 (by have := h2.2.1.2; omega) p
  exact ⟨I3, J2, b, r1, RM_q h2 r2, hi_QM r2⟩
theorem uq_ripe (hn : 2000 < n) (p : Int32) : UQ (FX11_ripe n) (FX12_ripe n) [.int p] := UQ_mk fun I J f b A hc hm => by
  obtain ⟨I1, k1, k2⟩ := c_ripe (n := n) (by omega) J f hc.1 (by have := hc.2.1.2; omega) p
  refine ⟨_, A, ⟨I1, J, f, k1, RC_of hc (fun c j _ hs => k2 c j (by unfold scr at hs; omega) (by unfold scr at hs; omega) (by unfold scr at hs; omega)), fun c j hc => k2 c j (by omega) (by omega) (by omega)⟩, fun I2 J2 f2 h2 => ?_⟩
  obtain ⟨I3, r1, r2⟩ := m_ripe (n := n) (by omega) J2 f2 h2.1 (by have := h2.2.1.2; omega) p
  exact ⟨I3, J2, b, r1, RM_q h2 r2, hi_QM r2⟩
theorem uq_quiet (hn : 2000 < n) : UQ (FX11_quiet n) (FX12_quiet n) [] := UQ_mk fun I J f b A hc hm => by
  obtain ⟨I1, k1, k2⟩ := c_quiet (n := n) (by omega) J f hc.1 (by have := hc.2.1.2; omega)
  refine ⟨_, A, ⟨I1, J, f, k1, RC_of hc (fun c j _ hs => k2 c j (by unfold scr at hs; omega) (by unfold scr at hs; omega) (by unfold scr at hs; omega)), fun c j hc => k2 c j (by omega) (by omega) (by omega)⟩, fun I2 J2 f2 h2 => ?_⟩
  obtain ⟨I3, r1, r2⟩ := m_quiet (n := n) (by omega) J2 f2 h2.1 (by have := h2.2.1.2; omega)
  exact ⟨I3, J2, b, r1, RM_q h2 r2, hi_QM r2⟩
theorem uq_walk (hn : 2000 < n) (p q : Int32) : UQ (FX11_walk n) (FX12_walk n) [.int p, .int q] := UQ_mk fun I J f b A hc hm => by
  obtain ⟨I1, k1, k2⟩ := c_walk (n := n) (by omega) J f hc.1 p q
  refine ⟨_, A, ⟨I1, J, f, k1, RC_of hc (fun c j _ hs => k2 c j (by unfold scr at hs; omega)), fun c j hc => k2 c j (by omega)⟩, fun I2 J2 f2 h2 => ?_⟩
  obtain ⟨I3, r1, r2⟩ := m_walk (n := n) (by omega) J2 f2 h2.1 p q
  exact ⟨I3, J2, b, r1, RM_q h2 r2, hi_QM r2⟩
theorem uq_reach (hn : 2000 < n) (p : Int32) : UQ (FX11_reach n) (FX12_reach n) [.int p] := UQ_mk fun I J f b A hc hm => by
  obtain ⟨I1, k1, k2⟩ := c_reach (n := n) (by omega) J f hc.1 p
  refine ⟨_, A, ⟨I1, J, f, k1, RC_of hc (fun c j _ hs => k2 c j (by unfold scr at hs; omega)), fun c j hc => k2 c j (by omega)⟩, fun I2 J2 f2 h2 => ?_⟩
  obtain ⟨I3, r1, r2⟩ := m_reach (n := n) (by omega) J2 f2 h2.1 p
  exact ⟨I3, J2, b, r1, RM_q h2 r2, hi_QM r2⟩
theorem uq_heir (hn : 2000 < n) : UQ (FX11_heir n) (FX12_heir n) [] := UQ_mk fun I J f b A hc hm => by
  obtain ⟨I1, k1, k2⟩ := c_heir (n := n) (by omega) J f hc.1
  refine ⟨_, A, ⟨I1, J, f, k1, RC_of hc (fun c j _ hs => k2 c j (by unfold scr at hs; omega) (by unfold scr at hs; omega)), fun c j hc => k2 c j (by omega) (by omega)⟩, fun I2 J2 f2 h2 => ?_⟩
  obtain ⟨I3, r1, r2⟩ := m_heir (n := n) (by omega) J2 f2 h2.1
  exact ⟨I3, J2, b, r1, RM_q h2 (QM_MF r2), hi_QM (QM_MF r2)⟩
theorem uq_finest (hn : 2000 < n) : UQ (FX11_finest n) (FX12_finest n) [] := UQ_mk fun I J f b A hc hm => by
  obtain ⟨I1, k1, k2⟩ := c_finest (n := n) (by omega) J f hc.1
  refine ⟨_, A, ⟨I1, J, f, k1, RC_of hc (fun c j _ hs => k2 c j (by unfold scr at hs; omega) (by unfold scr at hs; omega)), fun c j hc => k2 c j (by omega) (by omega)⟩, fun I2 J2 f2 h2 => ?_⟩
  obtain ⟨I3, r1, r2⟩ := m_finest (n := n) (by omega) J2 f2 h2.1
  exact ⟨I3, J2, b, r1, RM_q h2 (QM_MF r2), hi_QM (QM_MF r2)⟩
theorem uq_fullest (hn : 2000 < n) : UQ (FX11_fullest n) (FX12_fullest n) [] := UQ_mk fun I J f b A hc hm => by
  have k1 := c_fullest (n := n) (by omega) J f hc.1
  refine ⟨_, A, ⟨I, J, f, k1, hc, lo_rf⟩, fun I2 J2 f2 h2 => ?_⟩
  exact ⟨I2, J2, b, m_fullest (n := n) (by omega) J2 f2 h2.1, h2, hi_rf⟩
theorem uq_law (hn : 2000 < n) (p : Int32) : UQ (FX11_law n) (FX12_law n) [.int p] := UQ_mk fun I J f b A hc hm => by
  obtain ⟨I1, k1, k2⟩ := c_law (n := n) (by omega) J f hc.1 p
  refine ⟨_, A, ⟨I1, J, f, k1, RC_of hc (fun c j _ hs => k2 c j (by unfold scr at hs; omega) (by unfold scr at hs; omega) (by unfold scr at hs; omega)), fun c j hc => k2 c j (by omega) (by omega) (by omega)⟩, fun I2 J2 f2 h2 => ?_⟩
  obtain ⟨I3, r1, r2⟩ := m_law (n := n) (by omega) J2 f2 h2.1 p
  exact ⟨I3, J2, b, r1, RM_q h2 r2, hi_QM r2⟩
theorem uq_odds (hn : 2000 < n) (p q r : Int32) : UQ (FX11_odds n) (FX12_odds n) [.int p, .int q, .int r] := UQ_mk fun I J f b A hc hm => by
  have k1 := c_odds (n := n) (by omega) J f hc.1 p q r
  refine ⟨_, A, ⟨I, J, f, k1, hc, lo_rf⟩, fun I2 J2 f2 h2 => ?_⟩
  exact ⟨I2, J2, b, m_odds (n := n) (by omega) J2 f2 h2.1 p q r, h2, hi_rf⟩
theorem uq_order (hn : 2000 < n) : UQ (FX11_order n) (FX12_order n) [] := UQ_mk fun I J f b A hc hm => by
  obtain ⟨I1, k1, k2, k3⟩ := c_order (n := n) (by omega) J f hc.1
  refine ⟨_, _, ⟨I1, J, f, k1, RC_row hc k2 (fun c j _ hs h55 h56 => k3 c j (by unfold scr at hs; omega) (by unfold scr at hs; omega) h55 h56), fun c j hc => k3 c j (by omega) (by omega) (by omega) (by omega)⟩, fun I2 J2 f2 h2 => ?_⟩
  obtain ⟨I3, r1, r2, r3⟩ := m_order (n := n) (by omega) J2 f2 h2.1
  exact ⟨I3, J2, b, r1, RM_row h2 r3 r2, hi_QL r3⟩
theorem uq_window (hn : 2000 < n) (p q : Int32) : UQ (FX11_window n) (FX12_window n) [.int p, .int q] := UQ_mk fun I J f b A hc hm => by
  obtain ⟨I1, k1, k2, k3⟩ := c_window (n := n) (by omega) J f hc.1 p q
  refine ⟨_, _, ⟨I1, J, f, k1, RC_row hc k2 (fun c j _ hs h55 h56 => k3 c j (by unfold scr at hs; omega) h55 h56), fun c j hc => k3 c j (by omega) (by omega) (by omega)⟩, fun I2 J2 f2 h2 => ?_⟩
  obtain ⟨I3, r1, r2, r3⟩ := m_window (n := n) (by omega) J2 f2 h2.1 p q
  exact ⟨I3, J2, b, r1, RM_row h2 r3 r2, hi_QL r3⟩
theorem uq_sale (hn : 2000 < n) (p q : Int32) : UQ (FX11_sale n) (FX12_sale n) [.int p, .int q] := UQ_mk fun I J f b A hc hm => by
  obtain ⟨I1, k1, k2, k3⟩ := c_sale (n := n) (by omega) J f hc.1 p q
  refine ⟨_, _, ⟨I1, J, f, k1, RC_row hc k2 (fun c j _ hs h55 h56 => k3 c j (by unfold scr at hs; omega) (by unfold scr at hs; omega) (by unfold scr at hs; omega) h55 h56), fun c j hc => k3 c j (by omega) (by omega) (by omega) (by omega) (by omega)⟩, fun I2 J2 f2 h2 => ?_⟩
  obtain ⟨I3, r1, r2, r3⟩ := m_sale (n := n) (by omega) J2 f2 h2.1 p q
  exact ⟨I3, J2, b, r1, RM_row h2 r3 r2, hi_QL r3⟩
theorem uq_fits (hn : 2000 < n) (p : Int32) : UQ (FX11_fits n) (FX12_fits n) [.int p] := UQ_mk fun I J f b A hc hm => by
  obtain ⟨I1, k1, k2, k3⟩ := c_fits (n := n) (by omega) J f hc.1.2.1 hc.1.2.2.1 hc.2.2.2.2.1 p
  have rc : RC I1 A := RC_hear hc k2 (fun c j _ hs h46 => k3 c j (by unfold scr at hs; omega) (by unfold scr at hs; omega) (by omega) (by omega) (by unfold scr at hs; omega))
  refine ⟨_, A, ⟨I1, J, f, k1, rc, fun c j hc => k3 c j (by omega) (by omega) (by omega) (by omega) (by omega)⟩, fun I2 J2 f2 h2 => ?_⟩
  obtain ⟨I3, r1, r2⟩ := m_fitsM (n := n) (by omega) J2 f2 h2.1 h2.2.2.2.2.2.2.2.2 h2.2.2.2.2.1 p
  exact ⟨I3, J2, b, r1, RM_q h2 r2, hi_QM r2⟩
theorem uq_sure (hn : 2000 < n) (p q : Int32) : UQ (FX11_sure n) (FX12_sure n) [.int p, .int q] := UQ_mk fun I J f b A hc hm => by
  obtain ⟨I1, k1, k2, k3⟩ := c_sure (n := n) (by omega) J f hc.1.2.1 hc.1.2.2.1 hc.2.2.2.2.1 p q
  have rc : RC I1 A := RC_hear hc k2 (fun c j _ hs h46 => k3 c j (by unfold scr at hs; omega) (by unfold scr at hs; omega) (by omega) (by omega) (by unfold scr at hs; omega))
  refine ⟨_, A, ⟨I1, J, f, k1, rc, fun c j hc => k3 c j (by omega) (by omega) (by omega) (by omega) (by omega)⟩, fun I2 J2 f2 h2 => ?_⟩
  obtain ⟨I3, r1, r2⟩ := m_sure (n := n) (by omega) J2 f2 h2.1 h2.2.2.2.2.2.2.2.2 h2.2.2.2.2.1 p q
  exact ⟨I3, J2, b, r1, RM_q h2 r2, hi_QM r2⟩
theorem uq_ask (hn : 2000 < n) (p q : Int32) : UQ (FX11_ask n) (FX12_ask n) [.int p, .int q] := UQ_mk fun I J f b A hc hm => by
  obtain ⟨I1, k1, k2, k3⟩ := c_ask (n := n) (by omega) J f hc.1.2.1 hc.1.2.2.1 hc.2.2.2.2.1 p q
  have rc : RC I1 A := RC_hear hc k2 (fun c j _ hs h46 => k3 c j (by unfold scr at hs; omega) (by unfold scr at hs; omega) (by omega) (by omega) (by unfold scr at hs; omega))
  refine ⟨_, A, ⟨I1, J, f, k1, rc, fun c j hc => k3 c j (by omega) (by omega) (by omega) (by omega) (by omega)⟩, fun I2 J2 f2 h2 => ?_⟩
  obtain ⟨I3, r1, r2⟩ := m_ask (n := n) (by omega) J2 f2 h2.1 h2.2.2.2.2.2.2.2.2 h2.2.2.2.2.1 p q
  exact ⟨I3, J2, b, r1, RM_q h2 r2, hi_QM r2⟩
end Uni
