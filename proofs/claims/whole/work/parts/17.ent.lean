/-! ENTRIES: a method's function at its arguments -/
theorem eX11_lies (n : Nat) (a : Nat) (x0 : Int32) (μ : mM) : FX11_lies n [.ref a, .int x0] μ = kX11_lies_0 n [some (.ref a), some (.int x0)] [] μ := rfl
theorem eX12_clearBank (n : Nat) (a : Nat) (μ : mM) : FX12_clearBank n [.ref a] μ = kX12_clearBank_0 n [some (.ref a)] [] μ := rfl
theorem eX11_worth (n : Nat) (a : Nat) (x0 : Int32) (μ : mM) : FX11_worth n [.ref a, .int x0] μ = kX11_worth_0 n [some (.ref a), some (.int x0)] [] μ := rfl
theorem eX11_quiet (n : Nat) (a : Nat) (μ : mM) : FX11_quiet n [.ref a] μ = kX11_quiet_0 n [some (.ref a), none] [] μ := rfl
theorem eX12_behindUnit (n : Nat) (a : Nat) (μ : mM) : FX12_behindUnit n [.ref a] μ = kX12_behindUnit_0 n [some (.ref a), none] [] μ := rfl
theorem eX12_barsOf (n : Nat) (a : Nat) (x0 : Int32) (μ : mM) : FX12_barsOf n [.ref a, .int x0] μ = kX12_barsOf_0 n [some (.ref a), some (.int x0), none, none] [] μ := rfl
theorem eX12_put (n : Nat) (a : Nat) (x0 : Int32) (x1 : Int32) (μ : mM) : FX12_put n [.ref a, .int x0, .int x1] μ = kX12_put_0 n [some (.ref a), some (.int x0), some (.int x1)] [] μ := rfl
theorem eX11_will (n : Nat) (a : Nat) (x0 : Int32) (μ : mM) : FX11_will n [.ref a, .int x0] μ = kX11_will_0 n [some (.ref a), some (.int x0)] [] μ := rfl
theorem eX8_priceWithout (n : Nat) (a : Nat) (x0 : Int32) (μ : mM) : FX8_priceWithout n [.ref a, .int x0] μ = kX8_priceWithout_0 n [some (.ref a), some (.int x0), none, none, none] [] μ := rfl
theorem eX11_isOff (n : Nat) (a : Nat) (x0 : Int32) (μ : mM) : FX11_isOff n [.ref a, .int x0] μ = kX11_isOff_0 n [some (.ref a), some (.int x0)] [] μ := rfl
theorem eX12_ahead (n : Nat) (a : Nat) (x0 : Int32) (μ : mM) : FX12_ahead n [.ref a, .int x0] μ = kX12_ahead_0 n [some (.ref a), some (.int x0)] [] μ := rfl
theorem eX12_turn (n : Nat) (a : Nat) (x0 : Int32) (μ : mM) : FX12_turn n [.ref a, .int x0] μ = kX12_turn_0 n [some (.ref a), some (.int x0), none, none, none, none, none, none] [] μ := rfl
theorem eX2_fitsAll (n : Nat) (a : Nat) (x0 : Int32) (x1 : Int32) (μ : mM) : FX2_fitsAll n [.ref a, .int x0, .int x1] μ = kX2_fitsAll_0 n [some (.ref a), some (.int x0), some (.int x1), none, none] [] μ := rfl
theorem eX12_inRow (n : Nat) (a : Nat) (x0 : Int32) (μ : mM) : FX12_inRow n [.ref a, .int x0] μ = kX12_inRow_0 n [some (.ref a), some (.int x0), none, none] [] μ := rfl
theorem eX11_at (n : Nat) (x0 : Nat) (x1 : Int32) (μ : mM) : FX11_at n [.ref x0, .int x1] μ = kX11_at_0 n [some (.ref x0), some (.int x1)] [] μ := rfl
theorem eX11_sure (n : Nat) (a : Nat) (x0 : Int32) (x1 : Int32) (μ : mM) : FX11_sure n [.ref a, .int x0, .int x1] μ = kX11_sure_0 n [some (.ref a), some (.int x0), some (.int x1)] [] μ := rfl
theorem eX12_isWord (n : Nat) (a : Nat) (x0 : Int64) (μ : mM) : FX12_isWord n [.ref a, .long x0] μ = kX12_isWord_0 n [some (.ref a), some (.long x0), none] [] μ := rfl
theorem eX12_swapAll (n : Nat) (a : Nat) (μ : mM) : FX12_swapAll n [.ref a] μ = kX12_swapAll_0 n [some (.ref a), none, none] [] μ := rfl
theorem eX12_pushE (n : Nat) (a : Nat) (x0 : Int32) (x1 : Int32) (μ : mM) : FX12_pushE n [.ref a, .int x0, .int x1] μ = kX12_pushE_0 n [some (.ref a), some (.int x0), some (.int x1)] [] μ := rfl
theorem eX12_walk (n : Nat) (a : Nat) (x0 : Int32) (x1 : Int32) (μ : mM) : FX12_walk n [.ref a, .int x0, .int x1] μ = kX12_walk_0 n [some (.ref a), some (.int x0), some (.int x1)] [] μ := rfl
theorem eX11_fits (n : Nat) (a : Nat) (x0 : Int32) (μ : mM) : FX11_fits n [.ref a, .int x0] μ = kX11_fits_0 n [some (.ref a), some (.int x0)] [] μ := rfl
theorem eX5_fail (n : Nat) (a : Nat) (x0 : Int32) (x1 : Int32) (μ : mM) : FX5_fail n [.ref a, .int x0, .int x1] μ = kX5_fail_0 n [some (.ref a), some (.int x0), some (.int x1)] [] μ := rfl
theorem eX12_noise (n : Nat) (a : Nat) (μ : mM) : FX12_noise n [.ref a] μ = kX12_noise_0 n [some (.ref a)] [] μ := rfl
theorem eX12_finest (n : Nat) (a : Nat) (μ : mM) : FX12_finest n [.ref a] μ = kX12_finest_0 n [some (.ref a), none, none] [] μ := rfl
theorem eX11_ripe (n : Nat) (a : Nat) (x0 : Int32) (μ : mM) : FX11_ripe n [.ref a, .int x0] μ = kX11_ripe_0 n [some (.ref a), some (.int x0), none] [] μ := rfl
theorem eX11_year (n : Nat) (a : Nat) (μ : mM) : FX11_year n [.ref a] μ = kX11_year_0 n [some (.ref a), none] [] μ := rfl
theorem eX12_isKept (n : Nat) (x0 : Int64) (μ : mM) : FX12_isKept n [.long x0] μ = kX12_isKept_0 n [some (.long x0), none, none] [] μ := rfl
theorem eX8_passQuietly (n : Nat) (a : Nat) (μ : mM) : FX8_passQuietly n [.ref a] μ = kX8_passQuietly_0 n [some (.ref a)] [] μ := rfl
theorem eX8_worthAmong (n : Nat) (a : Nat) (x0 : Int32) (x1 : Int32) (μ : mM) : FX8_worthAmong n [.ref a, .int x0, .int x1] μ = kX8_worthAmong_0 n [some (.ref a), some (.int x0), some (.int x1), none] [] μ := rfl
theorem eX11_polish (n : Nat) (a : Nat) (x0 : Int32) (μ : mM) : FX11_polish n [.ref a, .int x0] μ = kX11_polish_0 n [some (.ref a), some (.int x0)] [] μ := rfl
theorem eX0_look (n : Nat) (a : Nat) (μ : mM) : FX0_look n [.ref a] μ = kX0_look_0 n [some (.ref a), none] [] μ := rfl
theorem eX12_law (n : Nat) (a : Nat) (x0 : Int32) (μ : mM) : FX12_law n [.ref a, .int x0] μ = kX12_law_0 n [some (.ref a), some (.int x0), none] [] μ := rfl
theorem eX9_isWord (n : Nat) (a : Nat) (x0 : Int32) (x1 : Int32) (x2 : Int32) (μ : mM) : FX9_isWord n [.ref a, .int x0, .int x1, .int x2] μ = kX9_isWord_0 n [some (.ref a), some (.int x0), some (.int x1), some (.int x2), none, none, none, none] [] μ := rfl
theorem eX12_changeCells (n : Nat) (a : Nat) (x0 : Int32) (x1 : Int32) (μ : mM) : FX12_changeCells n [.ref a, .int x0, .int x1] μ = kX12_changeCells_0 n [some (.ref a), some (.int x0), some (.int x1), none] [] μ := rfl
theorem eX12_spots (n : Nat) (a : Nat) (μ : mM) : FX12_spots n [.ref a] μ = kX12_spots_0 n [some (.ref a)] [] μ := rfl
theorem eX12_ask (n : Nat) (a : Nat) (x0 : Int32) (x1 : Int32) (μ : mM) : FX12_ask n [.ref a, .int x0, .int x1] μ = kX12_ask_0 n [some (.ref a), some (.int x0), some (.int x1), none, none, none, none] [] μ := rfl
theorem eX12_fullest (n : Nat) (a : Nat) (μ : mM) : FX12_fullest n [.ref a] μ = kX12_fullest_0 n [some (.ref a), none, none] [] μ := rfl
theorem eX7_layRests (n : Nat) (a : Nat) (x0 : Nat) (μ : mM) : FX7_layRests n [.ref a, .ref x0] μ = kX7_layRests_0 n [some (.ref a), some (.ref x0), none, none, none] [] μ := rfl
theorem eX9_isDigit (n : Nat) (a : Nat) (x0 : Int32) (μ : mM) : FX9_isDigit n [.ref a, .int x0] μ = kX9_isDigit_0 n [some (.ref a), some (.int x0), none] [] μ := rfl
theorem eX10_spread (n : Nat) (a : Nat) (μ : mM) : FX10_spread n [.ref a] μ = kX10_spread_0 n [some (.ref a), none, none, none] [] μ := rfl
theorem eX0_isFreeAmong (n : Nat) (a : Nat) (x0 : Int32) (x1 : Int32) (μ : mM) : FX0_isFreeAmong n [.ref a, .int x0, .int x1] μ = kX0_isFreeAmong_0 n [some (.ref a), some (.int x0), some (.int x1)] [] μ := rfl
theorem eX2_tabulate (n : Nat) (a : Nat) (x0 : Int32) (μ : mM) : FX2_tabulate n [.ref a, .int x0] μ = kX2_tabulate_0 n [some (.ref a), some (.int x0), none, none, none, none, none] [] μ := rfl
theorem eX12_later (n : Nat) (a : Nat) (x0 : Int32) (μ : mM) : FX12_later n [.ref a, .int x0] μ = kX12_later_0 n [some (.ref a), some (.int x0)] [] μ := rfl
theorem eX12_barredBy (n : Nat) (a : Nat) (x0 : Int32) (μ : mM) : FX12_barredBy n [.ref a, .int x0] μ = kX12_barredBy_0 n [some (.ref a), some (.int x0), none, none] [] μ := rfl
theorem eX11_back (n : Nat) (a : Nat) (x0 : Int32) (μ : mM) : FX11_back n [.ref a, .int x0] μ = kX11_back_0 n [some (.ref a), some (.int x0)] [] μ := rfl
theorem eX7_otherGain (n : Nat) (a : Nat) (x0 : Int32) (x1 : Int32) (μ : mM) : FX7_otherGain n [.ref a, .int x0, .int x1] μ = kX7_otherGain_0 n [some (.ref a), some (.int x0), some (.int x1), none] [] μ := rfl
theorem eX11_end (n : Nat) (a : Nat) (x0 : Int32) (μ : mM) : FX11_end n [.ref a, .int x0] μ = kX11_end_0 n [some (.ref a), some (.int x0)] [] μ := rfl
theorem eX11_vintage (n : Nat) (a : Nat) (x0 : Int32) (μ : mM) : FX11_vintage n [.ref a, .int x0] μ = kX11_vintage_0 n [some (.ref a), some (.int x0), none, none, none, none] [] μ := rfl
theorem eX12_isHere (n : Nat) (a : Nat) (x0 : Int32) (μ : mM) : FX12_isHere n [.ref a, .int x0] μ = kX12_isHere_0 n [some (.ref a), some (.int x0)] [] μ := rfl
theorem eX5_reads (n : Nat) (a : Nat) (x0 : Int32) (μ : mM) : FX5_reads n [.ref a, .int x0] μ = kX5_reads_0 n [some (.ref a), some (.int x0), none] [] μ := rfl
theorem eX11_softer (n : Nat) (a : Nat) (x0 : Int32) (μ : mM) : FX11_softer n [.ref a, .int x0] μ = kX11_softer_0 n [some (.ref a), some (.int x0)] [] μ := rfl
theorem eX8_lay (n : Nat) (a : Nat) (μ : mM) : FX8_lay n [.ref a] μ = kX8_lay_0 n [some (.ref a)] [] μ := rfl
theorem eX11_car (n : Nat) (a : Nat) (x0 : Int32) (x1 : Int32) (μ : mM) : FX11_car n [.ref a, .int x0, .int x1] μ = kX11_car_0 n [some (.ref a), some (.int x0), some (.int x1)] [] μ := rfl
theorem eX12_worthOf (n : Nat) (a : Nat) (x0 : Int32) (μ : mM) : FX12_worthOf n [.ref a, .int x0] μ = kX12_worthOf_0 n [some (.ref a), some (.int x0)] [] μ := rfl
theorem eX11_turn (n : Nat) (a : Nat) (x0 : Int32) (μ : mM) : FX11_turn n [.ref a, .int x0] μ = kX11_turn_0 n [some (.ref a), some (.int x0), none] [] μ := rfl
theorem eX2_mostAlike (n : Nat) (a : Nat) (x0 : Int32) (μ : mM) : FX2_mostAlike n [.ref a, .int x0] μ = kX2_mostAlike_0 n [some (.ref a), some (.int x0), none, none, none, none, none] [] μ := rfl
theorem eX2_takeBack (n : Nat) (a : Nat) (x0 : Int32) (μ : mM) : FX2_takeBack n [.ref a, .int x0] μ = kX2_takeBack_0 n [some (.ref a), some (.int x0)] [] μ := rfl
theorem eX11_feedOne (n : Nat) (a : Nat) (x0 : Int32) (μ : mM) : FX11_feedOne n [.ref a, .int x0] μ = kX11_feedOne_0 n [some (.ref a), some (.int x0), none] [] μ := rfl
theorem eX12_keepNow (n : Nat) (a : Nat) (μ : mM) : FX12_keepNow n [.ref a] μ = kX12_keepNow_0 n [some (.ref a), none] [] μ := rfl
theorem eX2_worthBehind (n : Nat) (a : Nat) (x0 : Int32) (x1 : Int32) (μ : mM) : FX2_worthBehind n [.ref a, .int x0, .int x1] μ = kX2_worthBehind_0 n [some (.ref a), some (.int x0), some (.int x1)] [] μ := rfl
theorem eX12_spot (n : Nat) (a : Nat) (x0 : Int32) (μ : mM) : FX12_spot n [.ref a, .int x0] μ = kX12_spot_0 n [some (.ref a), some (.int x0)] [] μ := rfl
theorem eX2_countFits (n : Nat) (a : Nat) (x0 : Int32) (μ : mM) : FX2_countFits n [.ref a, .int x0] μ = kX2_countFits_0 n [some (.ref a), some (.int x0), none] [] μ := rfl
theorem eX4_beside (n : Nat) (a : Nat) (x0 : Int32) (x1 : Int32) (μ : mM) : FX4_beside n [.ref a, .int x0, .int x1] μ = kX4_beside_0 n [some (.ref a), some (.int x0), some (.int x1)] [] μ := rfl
theorem eX12_readLine (n : Nat) (a : Nat) (μ : mM) : FX12_readLine n [.ref a] μ = kX12_readLine_0 n [some (.ref a), none, none] [] μ := rfl
theorem eX11_tryTurns (n : Nat) (a : Nat) (x0 : Int32) (μ : mM) : FX11_tryTurns n [.ref a, .int x0] μ = kX11_tryTurns_0 n [some (.ref a), some (.int x0), none, none, none] [] μ := rfl
theorem eX12_priceNow (n : Nat) (a : Nat) (μ : mM) : FX12_priceNow n [.ref a] μ = kX12_priceNow_0 n [some (.ref a), none, none] [] μ := rfl
theorem eX11_odds (n : Nat) (a : Nat) (x0 : Int32) (x1 : Int32) (x2 : Int32) (μ : mM) : FX11_odds n [.ref a, .int x0, .int x1, .int x2] μ = kX11_odds_0 n [some (.ref a), some (.int x0), some (.int x1), some (.int x2), none, none, none, none, none] [] μ := rfl
theorem eX11_ahead (n : Nat) (a : Nat) (x0 : Int32) (μ : mM) : FX11_ahead n [.ref a, .int x0] μ = kX11_ahead_0 n [some (.ref a), some (.int x0)] [] μ := rfl
theorem eX12_loose (n : Nat) (a : Nat) (μ : mM) : FX12_loose n [.ref a] μ = kX12_loose_0 n [some (.ref a)] [] μ := rfl
theorem eX12_image (n : Nat) (a : Nat) (x0 : Int32) (μ : mM) : FX12_image n [.ref a, .int x0] μ = kX12_image_0 n [some (.ref a), some (.int x0), none] [] μ := rfl
theorem eX5_streetLine (n : Nat) (a : Nat) (μ : mM) : FX5_streetLine n [.ref a] μ = kX5_streetLine_0 n [some (.ref a)] [] μ := rfl
theorem eX5_levelOf (n : Nat) (x0 : Int32) (μ : mM) : FX5_levelOf n [.int x0] μ = kX5_levelOf_0 n [some (.int x0)] [] μ := rfl
theorem eX12_must (n : Nat) (a : Nat) (x0 : Int32) (μ : mM) : FX12_must n [.ref a, .int x0] μ = kX12_must_0 n [some (.ref a), some (.int x0)] [] μ := rfl
theorem eX12_mostAlike (n : Nat) (a : Nat) (x0 : Int32) (μ : mM) : FX12_mostAlike n [.ref a, .int x0] μ = kX12_mostAlike_0 n [some (.ref a), some (.int x0), none, none, none, none] [] μ := rfl
theorem eX7_open (n : Nat) (a : Nat) (x0 : Int32) (x1 : Int32) (μ : mM) : FX7_open n [.ref a, .int x0, .int x1] μ = kX7_open_0 n [some (.ref a), some (.int x0), some (.int x1)] [] μ := rfl
theorem eX12_redo (n : Nat) (a : Nat) (μ : mM) : FX12_redo n [.ref a] μ = kX12_redo_0 n [some (.ref a)] [] μ := rfl
theorem eX9_kindOf (n : Nat) (a : Nat) (x0 : Int32) (x1 : Int32) (μ : mM) : FX9_kindOf n [.ref a, .int x0, .int x1] μ = kX9_kindOf_0 n [some (.ref a), some (.int x0), some (.int x1), none] [] μ := rfl
theorem eX10_nearer (n : Nat) (a : Nat) (x0 : Int32) (μ : mM) : FX10_nearer n [.ref a, .int x0] μ = kX10_nearer_0 n [some (.ref a), some (.int x0), none, none, none] [] μ := rfl
theorem eX12_sign (n : Nat) (a : Nat) (x0 : Int32) (μ : mM) : FX12_sign n [.ref a, .int x0] μ = kX12_sign_0 n [some (.ref a), some (.int x0)] [] μ := rfl
theorem eX12_odds (n : Nat) (a : Nat) (x0 : Int32) (x1 : Int32) (x2 : Int32) (μ : mM) : FX12_odds n [.ref a, .int x0, .int x1, .int x2] μ = kX12_odds_0 n [some (.ref a), some (.int x0), some (.int x1), some (.int x2), none, none] [] μ := rfl
theorem eX11_steer (n : Nat) (a : Nat) (x0 : Int32) (x1 : Int32) (μ : mM) : FX11_steer n [.ref a, .int x0, .int x1] μ = kX11_steer_0 n [some (.ref a), some (.int x0), some (.int x1)] [] μ := rfl
theorem eX3_keep (n : Nat) (a : Nat) (μ : mM) : FX3_keep n [.ref a] μ = kX3_keep_0 n [some (.ref a)] [] μ := rfl
theorem eX12_layBars (n : Nat) (a : Nat) (μ : mM) : FX12_layBars n [.ref a] μ = kX12_layBars_0 n [some (.ref a), none] [] μ := rfl
theorem eX12_held (n : Nat) (x0 : Int32) (x1 : Int32) (x2 : Int32) (μ : mM) : FX12_held n [.int x0, .int x1, .int x2] μ = kX12_held_0 n [some (.int x0), some (.int x1), some (.int x2)] [] μ := rfl
theorem eX12_tow (n : Nat) (a : Nat) (x0 : Int32) (μ : mM) : FX12_tow n [.ref a, .int x0] μ = kX12_tow_0 n [some (.ref a), some (.int x0)] [] μ := rfl
theorem eX8_whoBars (n : Nat) (a : Nat) (x0 : Int32) (μ : mM) : FX8_whoBars n [.ref a, .int x0] μ = kX8_whoBars_0 n [some (.ref a), some (.int x0), none, none] [] μ := rfl
theorem eX11_tow (n : Nat) (a : Nat) (x0 : Int32) (μ : mM) : FX11_tow n [.ref a, .int x0] μ = kX11_tow_0 n [some (.ref a), some (.int x0)] [] μ := rfl
theorem eX12_heard (n : Nat) (a : Nat) (x0 : Int32) (x1 : Int32) (x2 : Int32) (μ : mM) : FX12_heard n [.ref a, .int x0, .int x1, .int x2] μ = kX12_heard_0 n [some (.ref a), some (.int x0), some (.int x1), some (.int x2)] [] μ := rfl
theorem eX12_sure (n : Nat) (a : Nat) (x0 : Int32) (x1 : Int32) (μ : mM) : FX12_sure n [.ref a, .int x0, .int x1] μ = kX12_sure_0 n [some (.ref a), some (.int x0), some (.int x1), none] [] μ := rfl
theorem eX6_add (n : Nat) (a : Nat) (x0 : Int32) (μ : mM) : FX6_add n [.ref a, .int x0] μ = kX6_add_0 n [some (.ref a), some (.int x0)] [] μ := rfl
theorem eX12_vintage (n : Nat) (a : Nat) (x0 : Int32) (μ : mM) : FX12_vintage n [.ref a, .int x0] μ = kX12_vintage_0 n [some (.ref a), some (.int x0), none, none, none, none] [] μ := rfl
theorem eX11_heard (n : Nat) (a : Nat) (x0 : Int32) (x1 : Int32) (x2 : Int32) (μ : mM) : FX11_heard n [.ref a, .int x0, .int x1, .int x2] μ = kX11_heard_0 n [some (.ref a), some (.int x0), some (.int x1), some (.int x2)] [] μ := rfl
theorem eX5_line (n : Nat) (a : Nat) (μ : mM) : FX5_line n [.ref a] μ = kX5_line_0 n [some (.ref a)] [] μ := rfl
theorem eX11_until (n : Nat) (a : Nat) (x0 : Int32) (μ : mM) : FX11_until n [.ref a, .int x0] μ = kX11_until_0 n [some (.ref a), some (.int x0)] [] μ := rfl
theorem eX0_allAheadOf (n : Nat) (a : Nat) (x0 : Int32) (μ : mM) : FX0_allAheadOf n [.ref a, .int x0] μ = kX0_allAheadOf_0 n [some (.ref a), some (.int x0), none, none, none] [] μ := rfl
theorem eX8_whomItBars (n : Nat) (a : Nat) (x0 : Int32) (μ : mM) : FX8_whomItBars n [.ref a, .int x0] μ = kX8_whomItBars_0 n [some (.ref a), some (.int x0), none, none] [] μ := rfl
theorem eX3_init (n : Nat) (a : Nat) (x0 : Nat) (μ : mM) : FX3_init n [.ref a, .ref x0] μ = kX3_init_0 n [some (.ref a), some (.ref x0)] [] μ := rfl
theorem eX8_init (n : Nat) (a : Nat) (x0 : Nat) (μ : mM) : FX8_init n [.ref a, .ref x0] μ = kX8_init_0 n [some (.ref a), some (.ref x0)] [] μ := rfl
theorem eX11_noise (n : Nat) (a : Nat) (μ : mM) : FX11_noise n [.ref a] μ = kX11_noise_0 n [some (.ref a)] [] μ := rfl
theorem eX12_keepAct (n : Nat) (a : Nat) (μ : mM) : FX12_keepAct n [.ref a] μ = kX12_keepAct_0 n [some (.ref a), none] [] μ := rfl
theorem eX12_layWorths (n : Nat) (a : Nat) (μ : mM) : FX12_layWorths n [.ref a] μ = kX12_layWorths_0 n [some (.ref a), none, none] [] μ := rfl
theorem eX8_isIn (n : Nat) (a : Nat) (x0 : Int32) (μ : mM) : FX8_isIn n [.ref a, .int x0] μ = kX8_isIn_0 n [some (.ref a), some (.int x0)] [] μ := rfl
theorem eX4_init (n : Nat) (a : Nat) (μ : mM) : FX4_init n [.ref a] μ = kX4_init_0 n [some (.ref a)] [] μ := rfl
theorem eX12_e (n : Nat) (a : Nat) (μ : mM) : FX12_e n [.ref a] μ = kX12_e_0 n [some (.ref a), none] [] μ := rfl
theorem eX12_whoAt (n : Nat) (a : Nat) (x0 : Int32) (μ : mM) : FX12_whoAt n [.ref a, .int x0] μ = kX12_whoAt_0 n [some (.ref a), some (.int x0), none] [] μ := rfl
theorem eX12_feed (n : Nat) (a : Nat) (x0 : Int32) (x1 : Int32) (x2 : Int32) (x3 : Int32) (x4 : Int32) (μ : mM) : FX12_feed n [.ref a, .int x0, .int x1, .int x2, .int x3, .int x4] μ = kX12_feed_0 n [some (.ref a), some (.int x0), some (.int x1), some (.int x2), some (.int x3), some (.int x4), none, none] [] μ := rfl
theorem eX12_offOf (n : Nat) (a : Nat) (x0 : Int32) (μ : mM) : FX12_offOf n [.ref a, .int x0] μ = kX12_offOf_0 n [some (.ref a), some (.int x0), none, none] [] μ := rfl
theorem eX12_power (n : Nat) (x0 : Int32) (x1 : Int32) (μ : mM) : FX12_power n [.int x0, .int x1] μ = kX12_power_0 n [some (.int x0), some (.int x1), none, none] [] μ := rfl
theorem eX9_init (n : Nat) (a : Nat) (x0 : Nat) (μ : mM) : FX9_init n [.ref a, .ref x0] μ = kX9_init_0 n [some (.ref a), some (.ref x0)] [] μ := rfl
theorem eX1_copyFrom (n : Nat) (a : Nat) (x0 : Nat) (μ : mM) : FX1_copyFrom n [.ref a, .ref x0] μ = kX1_copyFrom_0 n [some (.ref a), some (.ref x0)] [] μ := rfl
theorem eX0_init (n : Nat) (a : Nat) (x0 : Nat) (μ : mM) : FX0_init n [.ref a, .ref x0] μ = kX0_init_0 n [some (.ref a), some (.ref x0)] [] μ := rfl
theorem eX12_lies (n : Nat) (a : Nat) (x0 : Int32) (μ : mM) : FX12_lies n [.ref a, .int x0] μ = kX12_lies_0 n [some (.ref a), some (.int x0)] [] μ := rfl
theorem eX11_reach (n : Nat) (a : Nat) (x0 : Int32) (μ : mM) : FX11_reach n [.ref a, .int x0] μ = kX11_reach_0 n [some (.ref a), some (.int x0)] [] μ := rfl
theorem eX12_readRule (n : Nat) (a : Nat) (x0 : Int32) (μ : mM) : FX12_readRule n [.ref a, .int x0] μ = kX12_readRule_0 n [some (.ref a), some (.int x0)] [] μ := rfl
theorem eX12_rankHere (n : Nat) (a : Nat) (μ : mM) : FX12_rankHere n [.ref a] μ = kX12_rankHere_0 n [some (.ref a)] [] μ := rfl
theorem eX12_misplaced (n : Nat) (a : Nat) (μ : mM) : FX12_misplaced n [.ref a] μ = kX12_misplaced_0 n [some (.ref a)] [] μ := rfl
theorem eX10_begin (n : Nat) (a : Nat) (μ : mM) : FX10_begin n [.ref a] μ = kX10_begin_0 n [some (.ref a), none] [] μ := rfl
theorem eX12_after (n : Nat) (a : Nat) (x0 : Int64) (x1 : Int32) (x2 : Int32) (μ : mM) : FX12_after n [.ref a, .long x0, .int x1, .int x2] μ = kX12_after_0 n [some (.ref a), some (.long x0), none, some (.int x1), some (.int x2)] [] μ := rfl
theorem eX5_takeCell (n : Nat) (a : Nat) (x0 : Int32) (μ : mM) : FX5_takeCell n [.ref a, .int x0] μ = kX5_takeCell_0 n [some (.ref a), some (.int x0), none, none, none] [] μ := rfl
theorem eX10_startAt (n : Nat) (a : Nat) (x0 : Int32) (μ : mM) : FX10_startAt n [.ref a, .int x0] μ = kX10_startAt_0 n [some (.ref a), some (.int x0)] [] μ := rfl
theorem eX1_variable (n : Nat) (x0 : Int32) (x1 : Int32) (x2 : Int32) (x3 : Int32) (x4 : Int32) (x5 : Int32) (μ : mM) : FX1_variable n [.int x0, .int x1, .int x2, .int x3, .int x4, .int x5] μ = kX1_variable_0 n [some (.int x0), some (.int x1), some (.int x2), some (.int x3), some (.int x4), some (.int x5)] [] μ := rfl
theorem eX11_bit (n : Nat) (x0 : Int32) (μ : mM) : FX11_bit n [.int x0] μ = kX11_bit_0 n [some (.int x0)] [] μ := rfl
theorem eX3_stepBack (n : Nat) (a : Nat) (μ : mM) : FX3_stepBack n [.ref a] μ = kX3_stepBack_0 n [some (.ref a)] [] μ := rfl
theorem eX4_isOnLine (n : Nat) (a : Nat) (x0 : Int32) (x1 : Int32) (x2 : Int32) (μ : mM) : FX4_isOnLine n [.ref a, .int x0, .int x1, .int x2] μ = kX4_isOnLine_0 n [some (.ref a), some (.int x0), some (.int x1), some (.int x2), none, none] [] μ := rfl
theorem eX7_init (n : Nat) (a : Nat) (μ : mM) : FX7_init n [.ref a] μ = kX7_init_0 n [some (.ref a)] [] μ := rfl
theorem eX11_later (n : Nat) (a : Nat) (x0 : Int32) (μ : mM) : FX11_later n [.ref a, .int x0] μ = kX11_later_0 n [some (.ref a), some (.int x0)] [] μ := rfl
theorem eX11_spot (n : Nat) (a : Nat) (x0 : Int32) (μ : mM) : FX11_spot n [.ref a, .int x0] μ = kX11_spot_0 n [some (.ref a), some (.int x0)] [] μ := rfl
theorem eX11_lot (n : Nat) (a : Nat) (x0 : Int32) (μ : mM) : FX11_lot n [.ref a, .int x0] μ = kX11_lot_0 n [some (.ref a), some (.int x0), none, none, none, none] [] μ := rfl
theorem eX12_fits (n : Nat) (a : Nat) (x0 : Int32) (μ : mM) : FX12_fits n [.ref a, .int x0] μ = kX12_fits_0 n [some (.ref a), some (.int x0), none, none] [] μ := rfl
theorem eX12_softerOf (n : Nat) (a : Nat) (x0 : Int32) (μ : mM) : FX12_softerOf n [.ref a, .int x0] μ = kX12_softerOf_0 n [some (.ref a), some (.int x0)] [] μ := rfl
theorem eX9_kindOfWord (n : Nat) (a : Nat) (x0 : Int32) (x1 : Int32) (μ : mM) : FX9_kindOfWord n [.ref a, .int x0, .int x1] μ = kX9_kindOfWord_0 n [some (.ref a), some (.int x0), some (.int x1), none] [] μ := rfl
theorem eX1_joined (n : Nat) (x0 : Int32) (x1 : Int32) (x2 : Int32) (μ : mM) : FX1_joined n [.int x0, .int x1, .int x2] μ = kX1_joined_0 n [some (.int x0), some (.int x1), some (.int x2)] [] μ := rfl
theorem eX11_hoot (n : Nat) (a : Nat) (x0 : Int32) (x1 : Int32) (μ : mM) : FX11_hoot n [.ref a, .int x0, .int x1] μ = kX11_hoot_0 n [some (.ref a), some (.int x0), some (.int x1)] [] μ := rfl
theorem eX0_layOrder (n : Nat) (a : Nat) (x0 : Nat) (μ : mM) : FX0_layOrder n [.ref a, .ref x0] μ = kX0_layOrder_0 n [some (.ref a), some (.ref x0), none, none, none] [] μ := rfl
theorem eX11_redo (n : Nat) (a : Nat) (μ : mM) : FX11_redo n [.ref a] μ = kX11_redo_0 n [some (.ref a)] [] μ := rfl
theorem eX11_lines (n : Nat) (a : Nat) (x0 : Int32) (μ : mM) : FX11_lines n [.ref a, .int x0] μ = kX11_lines_0 n [some (.ref a), some (.int x0), none, none] [] μ := rfl
theorem eX12_free (n : Nat) (a : Nat) (μ : mM) : FX12_free n [.ref a] μ = kX12_free_0 n [some (.ref a)] [] μ := rfl
theorem eX5_drawLine (n : Nat) (a : Nat) (μ : mM) : FX5_drawLine n [.ref a] μ = kX5_drawLine_0 n [some (.ref a)] [] μ := rfl
theorem eX5_carLine (n : Nat) (a : Nat) (μ : mM) : FX5_carLine n [.ref a] μ = kX5_carLine_0 n [some (.ref a), none] [] μ := rfl
theorem eX6_init (n : Nat) (a : Nat) (μ : mM) : FX6_init n [.ref a] μ = kX6_init_0 n [some (.ref a)] [] μ := rfl
theorem eX1_valueBy (n : Nat) (a : Nat) (x0 : Int32) (x1 : Int32) (x2 : Int32) (x3 : Int32) (x4 : Int32) (μ : mM) : FX1_valueBy n [.ref a, .int x0, .int x1, .int x2, .int x3, .int x4] μ = kX1_valueBy_0 n [some (.ref a), some (.int x0), some (.int x1), some (.int x2), some (.int x3), some (.int x4), none, none, none] [] μ := rfl
theorem eX12_bitsOf (n : Nat) (x0 : Int32) (μ : mM) : FX12_bitsOf n [.int x0] μ = kX12_bitsOf_0 n [some (.int x0), none, none] [] μ := rfl
theorem eX12_isSpot (n : Nat) (a : Nat) (x0 : Int32) (μ : mM) : FX12_isSpot n [.ref a, .int x0] μ = kX12_isSpot_0 n [some (.ref a), some (.int x0)] [] μ := rfl
theorem eX1_clear (n : Nat) (a : Nat) (μ : mM) : FX1_clear n [.ref a] μ = kX1_clear_0 n [some (.ref a)] [] μ := rfl
theorem eX11_free (n : Nat) (a : Nat) (μ : mM) : FX11_free n [.ref a] μ = kX11_free_0 n [some (.ref a)] [] μ := rfl
theorem eX2_forget (n : Nat) (a : Nat) (μ : mM) : FX2_forget n [.ref a] μ = kX2_forget_0 n [some (.ref a)] [] μ := rfl
theorem eX12_layFitting (n : Nat) (a : Nat) (x0 : Int32) (μ : mM) : FX12_layFitting n [.ref a, .int x0] μ = kX12_layFitting_0 n [some (.ref a), some (.int x0), none] [] μ := rfl
theorem eX11_heir (n : Nat) (a : Nat) (μ : mM) : FX11_heir n [.ref a] μ = kX11_heir_0 n [some (.ref a), none, none, none, none] [] μ := rfl
theorem eX12_unit (n : Nat) (a : Nat) (μ : mM) : FX12_unit n [.ref a] μ = kX12_unit_0 n [some (.ref a), none, none, none, none, none, none] [] μ := rfl
theorem eX8_whoIsAt (n : Nat) (a : Nat) (x0 : Int32) (μ : mM) : FX8_whoIsAt n [.ref a, .int x0] μ = kX8_whoIsAt_0 n [some (.ref a), some (.int x0), none] [] μ := rfl
theorem eX8_soften (n : Nat) (a : Nat) (μ : mM) : FX8_soften n [.ref a] μ = kX8_soften_0 n [some (.ref a), none, none] [] μ := rfl
theorem eX12_noiseNow (n : Nat) (a : Nat) (μ : mM) : FX12_noiseNow n [.ref a] μ = kX12_noiseNow_0 n [some (.ref a), none, none] [] μ := rfl
theorem eX12_startAnew (n : Nat) (a : Nat) (μ : mM) : FX12_startAnew n [.ref a] μ = kX12_startAnew_0 n [some (.ref a), none] [] μ := rfl
theorem eX7_rests (n : Nat) (a : Nat) (x0 : Int32) (x1 : Int32) (μ : mM) : FX7_rests n [.ref a, .int x0, .int x1] μ = kX7_rests_0 n [some (.ref a), some (.int x0), some (.int x1), none, none, none] [] μ := rfl
theorem eX7_gain (n : Nat) (a : Nat) (x0 : Int32) (x1 : Int32) (μ : mM) : FX7_gain n [.ref a, .int x0, .int x1] μ = kX7_gain_0 n [some (.ref a), some (.int x0), some (.int x1), none] [] μ := rfl
theorem eX11_tows (n : Nat) (a : Nat) (x0 : Int32) (μ : mM) : FX11_tows n [.ref a, .int x0] μ = kX11_tows_0 n [some (.ref a), some (.int x0)] [] μ := rfl
theorem eX11_countOrSet (n : Nat) (x0 : Int32) (x1 : Int32) (μ : mM) : FX11_countOrSet n [.int x0, .int x1] μ = kX11_countOrSet_0 n [some (.int x0), some (.int x1)] [] μ := rfl
theorem eX12_soldFor (n : Nat) (a : Nat) (x0 : Int32) (x1 : Int32) (x2 : Int32) (x3 : Int32) (x4 : Int32) (μ : mM) : FX12_soldFor n [.ref a, .int x0, .int x1, .int x2, .int x3, .int x4] μ = kX12_soldFor_0 n [some (.ref a), some (.int x0), some (.int x1), some (.int x2), some (.int x3), some (.int x4), none, none, none, none] [] μ := rfl
theorem eX11_fault (n : Nat) (a : Nat) (x0 : Int32) (μ : mM) : FX11_fault n [.ref a, .int x0] μ = kX11_fault_0 n [some (.ref a), some (.int x0)] [] μ := rfl
theorem eX5_takeName (n : Nat) (a : Nat) (x0 : Int32) (μ : mM) : FX5_takeName n [.ref a, .int x0] μ = kX5_takeName_0 n [some (.ref a), some (.int x0), none, none, none] [] μ := rfl
theorem eX12_ripe (n : Nat) (a : Nat) (x0 : Int32) (μ : mM) : FX12_ripe n [.ref a, .int x0] μ = kX12_ripe_0 n [some (.ref a), some (.int x0), none] [] μ := rfl
theorem eX8_softeningAmong (n : Nat) (a : Nat) (x0 : Int32) (x1 : Int32) (μ : mM) : FX8_softeningAmong n [.ref a, .int x0, .int x1] μ = kX8_softeningAmong_0 n [some (.ref a), some (.int x0), some (.int x1), none] [] μ := rfl
theorem eX2_findAsk (n : Nat) (a : Nat) (μ : mM) : FX2_findAsk n [.ref a] μ = kX2_findAsk_0 n [some (.ref a), none, none] [] μ := rfl
theorem eX9_cut (n : Nat) (a : Nat) (x0 : Int32) (μ : mM) : FX9_cut n [.ref a, .int x0] μ = kX9_cut_0 n [some (.ref a), some (.int x0), none, none, none, none] [] μ := rfl
theorem eX12_hoot (n : Nat) (a : Nat) (x0 : Int32) (x1 : Int32) (μ : mM) : FX12_hoot n [.ref a, .int x0, .int x1] μ = kX12_hoot_0 n [some (.ref a), some (.int x0), some (.int x1), none] [] μ := rfl
theorem eX4_copyFrom (n : Nat) (a : Nat) (x0 : Nat) (μ : mM) : FX4_copyFrom n [.ref a, .ref x0] μ = kX4_copyFrom_0 n [some (.ref a), some (.ref x0)] [] μ := rfl
theorem eX11_about (n : Nat) (a : Nat) (x0 : Int32) (μ : mM) : FX11_about n [.ref a, .int x0] μ = kX11_about_0 n [some (.ref a), some (.int x0)] [] μ := rfl
theorem eX11_sale (n : Nat) (a : Nat) (x0 : Int32) (x1 : Int32) (μ : mM) : FX11_sale n [.ref a, .int x0, .int x1] μ = kX11_sale_0 n [some (.ref a), some (.int x0), some (.int x1), none] [] μ := rfl
theorem eX12_worth (n : Nat) (a : Nat) (x0 : Int32) (μ : mM) : FX12_worth n [.ref a, .int x0] μ = kX12_worth_0 n [some (.ref a), some (.int x0)] [] μ := rfl
theorem eX4_softeningBy (n : Nat) (a : Nat) (x0 : Int32) (x1 : Int32) (x2 : Int32) (x3 : Int32) (x4 : Int32) (μ : mM) : FX4_softeningBy n [.ref a, .int x0, .int x1, .int x2, .int x3, .int x4] μ = kX4_softeningBy_0 n [some (.ref a), some (.int x0), some (.int x1), some (.int x2), some (.int x3), some (.int x4), none] [] μ := rfl
theorem eX11_takeOff (n : Nat) (a : Nat) (x0 : Int32) (μ : mM) : FX11_takeOff n [.ref a, .int x0] μ = kX11_takeOff_0 n [some (.ref a), some (.int x0)] [] μ := rfl
theorem eX5_advance (n : Nat) (a : Nat) (μ : mM) : FX5_advance n [.ref a] μ = kX5_advance_0 n [some (.ref a), none] [] μ := rfl
theorem eX12_isFull (n : Nat) (a : Nat) (μ : mM) : FX12_isFull n [.ref a] μ = kX12_isFull_0 n [some (.ref a)] [] μ := rfl
theorem eX1_isTold (n : Nat) (a : Nat) (μ : mM) : FX1_isTold n [.ref a] μ = kX1_isTold_0 n [some (.ref a)] [] μ := rfl
theorem eX12_priceBehind (n : Nat) (a : Nat) (x0 : Int32) (μ : mM) : FX12_priceBehind n [.ref a, .int x0] μ = kX12_priceBehind_0 n [some (.ref a), some (.int x0), none] [] μ := rfl
theorem eX11_price (n : Nat) (a : Nat) (μ : mM) : FX11_price n [.ref a] μ = kX11_price_0 n [some (.ref a)] [] μ := rfl
theorem eX2_countsAt (n : Nat) (a : Nat) (x0 : Int32) (x1 : Int32) (μ : mM) : FX2_countsAt n [.ref a, .int x0, .int x1] μ = kX2_countsAt_0 n [some (.ref a), some (.int x0), some (.int x1), none] [] μ := rfl
theorem eX11_undo (n : Nat) (a : Nat) (μ : mM) : FX11_undo n [.ref a] μ = kX11_undo_0 n [some (.ref a)] [] μ := rfl
theorem eX11_untell (n : Nat) (a : Nat) (x0 : Int32) (μ : mM) : FX11_untell n [.ref a, .int x0] μ = kX11_untell_0 n [some (.ref a), some (.int x0)] [] μ := rfl
theorem eX9_byteAt (n : Nat) (a : Nat) (x0 : Int32) (μ : mM) : FX9_byteAt n [.ref a, .int x0] μ = kX9_byteAt_0 n [some (.ref a), some (.int x0)] [] μ := rfl
theorem eX5_sortOfLine (n : Nat) (a : Nat) (μ : mM) : FX5_sortOfLine n [.ref a] μ = kX5_sortOfLine_0 n [some (.ref a)] [] μ := rfl
theorem eX12_comeOff (n : Nat) (a : Nat) (x0 : Int32) (μ : mM) : FX12_comeOff n [.ref a, .int x0] μ = kX12_comeOff_0 n [some (.ref a), some (.int x0), none, none, none, none] [] μ := rfl
theorem eX12_isAhead (n : Nat) (x0 : Int32) (μ : mM) : FX12_isAhead n [.int x0] μ = kX12_isAhead_0 n [some (.int x0)] [] μ := rfl
theorem eX12_year (n : Nat) (a : Nat) (μ : mM) : FX12_year n [.ref a] μ = kX12_year_0 n [some (.ref a), none, none] [] μ := rfl
theorem eX2_leastFit (n : Nat) (a : Nat) (μ : mM) : FX2_leastFit n [.ref a] μ = kX2_leastFit_0 n [some (.ref a)] [] μ := rfl
theorem eX5_init (n : Nat) (a : Nat) (x0 : Nat) (x1 : Nat) (μ : mM) : FX5_init n [.ref a, .ref x0, .ref x1] μ = kX5_init_0 n [some (.ref a), some (.ref x0), some (.ref x1)] [] μ := rfl
theorem eX4_hasCell (n : Nat) (a : Nat) (x0 : Int32) (μ : mM) : FX4_hasCell n [.ref a, .int x0] μ = kX4_hasCell_0 n [some (.ref a), some (.int x0)] [] μ := rfl
theorem eX12_carHere (n : Nat) (a : Nat) (μ : mM) : FX12_carHere n [.ref a] μ = kX12_carHere_0 n [some (.ref a), none] [] μ := rfl
theorem eX12_order (n : Nat) (a : Nat) (μ : mM) : FX12_order n [.ref a] μ = kX12_order_0 n [some (.ref a), none] [] μ := rfl
theorem eX12_fault (n : Nat) (a : Nat) (x0 : Int32) (μ : mM) : FX12_fault n [.ref a, .int x0] μ = kX12_fault_0 n [some (.ref a), some (.int x0)] [] μ := rfl
theorem eX12_wordHere (n : Nat) (a : Nat) (μ : mM) : FX12_wordHere n [.ref a] μ = kX12_wordHere_0 n [some (.ref a)] [] μ := rfl
theorem eX5_breaksLine (n : Nat) (a : Nat) (μ : mM) : FX5_breaksLine n [.ref a] μ = kX5_breaksLine_0 n [some (.ref a)] [] μ := rfl
theorem eX12_comes (n : Nat) (a : Nat) (x0 : Int32) (x1 : Int32) (μ : mM) : FX12_comes n [.ref a, .int x0, .int x1] μ = kX12_comes_0 n [some (.ref a), some (.int x0), some (.int x1), none, none, none] [] μ := rfl
theorem eX4_columnOf (n : Nat) (a : Nat) (x0 : Int32) (μ : mM) : FX4_columnOf n [.ref a, .int x0] μ = kX4_columnOf_0 n [some (.ref a), some (.int x0)] [] μ := rfl
theorem eX9_behindToken (n : Nat) (a : Nat) (x0 : Int32) (μ : mM) : FX9_behindToken n [.ref a, .int x0] μ = kX9_behindToken_0 n [some (.ref a), some (.int x0), none] [] μ := rfl
theorem eX12_back (n : Nat) (a : Nat) (x0 : Int32) (μ : mM) : FX12_back n [.ref a, .int x0] μ = kX12_back_0 n [some (.ref a), some (.int x0), none] [] μ := rfl
theorem eX12_freeNow (n : Nat) (a : Nat) (μ : mM) : FX12_freeNow n [.ref a] μ = kX12_freeNow_0 n [some (.ref a), none, none] [] μ := rfl
theorem eX11_feed (n : Nat) (a : Nat) (x0 : Int32) (x1 : Int32) (x2 : Int32) (x3 : Int32) (x4 : Int32) (μ : mM) : FX11_feed n [.ref a, .int x0, .int x1, .int x2, .int x3, .int x4] μ = kX11_feed_0 n [some (.ref a), some (.int x0), some (.int x1), some (.int x2), some (.int x3), some (.int x4)] [] μ := rfl
theorem eX12_undo (n : Nat) (a : Nat) (μ : mM) : FX12_undo n [.ref a] μ = kX12_undo_0 n [some (.ref a)] [] μ := rfl
theorem eX8_save (n : Nat) (a : Nat) (x0 : Nat) (x1 : Int32) (μ : mM) : FX8_save n [.ref a, .ref x0, .int x1] μ = kX8_save_0 n [some (.ref a), some (.ref x0), some (.int x1), none, none] [] μ := rfl
theorem eX12_quiet (n : Nat) (a : Nat) (μ : mM) : FX12_quiet n [.ref a] μ = kX12_quiet_0 n [some (.ref a), none] [] μ := rfl
theorem eX12_window (n : Nat) (a : Nat) (x0 : Int32) (x1 : Int32) (μ : mM) : FX12_window n [.ref a, .int x0, .int x1] μ = kX12_window_0 n [some (.ref a), some (.int x0), some (.int x1), none, none, none] [] μ := rfl
theorem eX12_will (n : Nat) (a : Nat) (x0 : Int32) (μ : mM) : FX12_will n [.ref a, .int x0] μ = kX12_will_0 n [some (.ref a), some (.int x0)] [] μ := rfl
theorem eX5_refuse (n : Nat) (a : Nat) (μ : mM) : FX5_refuse n [.ref a] μ = kX5_refuse_0 n [some (.ref a)] [] μ := rfl
theorem eX12_asked (n : Nat) (a : Nat) (x0 : Int32) (x1 : Int32) (μ : mM) : FX12_asked n [.ref a, .int x0, .int x1] μ = kX12_asked_0 n [some (.ref a), some (.int x0), some (.int x1)] [] μ := rfl
theorem eX11_order (n : Nat) (a : Nat) (μ : mM) : FX11_order n [.ref a] μ = kX11_order_0 n [some (.ref a)] [] μ := rfl
theorem eX12_until (n : Nat) (a : Nat) (x0 : Int32) (μ : mM) : FX12_until n [.ref a, .int x0] μ = kX12_until_0 n [some (.ref a), some (.int x0), none] [] μ := rfl
theorem eX8_howManyInRow (n : Nat) (a : Nat) (x0 : Int32) (μ : mM) : FX8_howManyInRow n [.ref a, .int x0] μ = kX8_howManyInRow_0 n [some (.ref a), some (.int x0), none, none] [] μ := rfl
theorem eX11_jam (n : Nat) (a : Nat) (μ : mM) : FX11_jam n [.ref a] μ = kX11_jam_0 n [some (.ref a), none, none] [] μ := rfl
theorem eX4_clear (n : Nat) (a : Nat) (μ : mM) : FX4_clear n [.ref a] μ = kX4_clear_0 n [some (.ref a)] [] μ := rfl
theorem eX11_copyRow (n : Nat) (x0 : Nat) (x1 : Nat) (μ : mM) : FX11_copyRow n [.ref x0, .ref x1] μ = kX11_copyRow_0 n [some (.ref x0), some (.ref x1), none] [] μ := rfl
theorem eX12_price (n : Nat) (a : Nat) (μ : mM) : FX12_price n [.ref a] μ = kX12_price_0 n [some (.ref a)] [] μ := rfl
theorem eX4_rowOf (n : Nat) (a : Nat) (x0 : Int32) (μ : mM) : FX4_rowOf n [.ref a, .int x0] μ = kX4_rowOf_0 n [some (.ref a), some (.int x0)] [] μ := rfl
theorem eX8_breakLamps (n : Nat) (a : Nat) (μ : mM) : FX8_breakLamps n [.ref a] μ = kX8_breakLamps_0 n [some (.ref a), none, none] [] μ := rfl
theorem eX11_dear (n : Nat) (a : Nat) (x0 : Int32) (μ : mM) : FX11_dear n [.ref a, .int x0] μ = kX11_dear_0 n [some (.ref a), some (.int x0), none, none, none] [] μ := rfl
theorem eX9_behindBlanks (n : Nat) (a : Nat) (x0 : Int32) (μ : mM) : FX9_behindBlanks n [.ref a, .int x0] μ = kX9_behindBlanks_0 n [some (.ref a), some (.int x0), none] [] μ := rfl
theorem eX12_exchange (n : Nat) (a : Nat) (x0 : Int32) (μ : mM) : FX12_exchange n [.ref a, .int x0] μ = kX12_exchange_0 n [some (.ref a), some (.int x0), none, none, none, none, none, none] [] μ := rfl
theorem eX8_whoIsIn (n : Nat) (a : Nat) (μ : mM) : FX8_whoIsIn n [.ref a] μ = kX8_whoIsIn_0 n [some (.ref a), none, none] [] μ := rfl
theorem eX5_take (n : Nat) (a : Nat) (x0 : Int32) (μ : mM) : FX5_take n [.ref a, .int x0] μ = kX5_take_0 n [some (.ref a), some (.int x0)] [] μ := rfl
theorem eX12_polish (n : Nat) (a : Nat) (x0 : Int32) (μ : mM) : FX12_polish n [.ref a, .int x0] μ = kX12_polish_0 n [some (.ref a), some (.int x0)] [] μ := rfl
theorem eX12_layFar (n : Nat) (a : Nat) (μ : mM) : FX12_layFar n [.ref a] μ = kX12_layFar_0 n [some (.ref a), none, none, none] [] μ := rfl
theorem eX8_load (n : Nat) (a : Nat) (x0 : Nat) (x1 : Int32) (μ : mM) : FX8_load n [.ref a, .ref x0, .int x1] μ = kX8_load_0 n [some (.ref a), some (.ref x0), some (.int x1), none, none] [] μ := rfl
theorem eX0_isAmongIn (n : Nat) (a : Nat) (x0 : Int32) (μ : mM) : FX0_isAmongIn n [.ref a, .int x0] μ = kX0_isAmongIn_0 n [some (.ref a), some (.int x0)] [] μ := rfl
theorem eX12_isLetter (n : Nat) (x0 : Int32) (μ : mM) : FX12_isLetter n [.int x0] μ = kX12_isLetter_0 n [some (.int x0)] [] μ := rfl
theorem eX12_goOn (n : Nat) (a : Nat) (μ : mM) : FX12_goOn n [.ref a] μ = kX12_goOn_0 n [some (.ref a), none, none] [] μ := rfl
theorem eX0_stuckOf (n : Nat) (a : Nat) (x0 : Int32) (μ : mM) : FX0_stuckOf n [.ref a, .int x0] μ = kX0_stuckOf_0 n [some (.ref a), some (.int x0), none, none, none] [] μ := rfl
theorem eX12_numeral (n : Nat) (a : Nat) (x0 : Int32) (x1 : Int32) (μ : mM) : FX12_numeral n [.ref a, .int x0, .int x1] μ = kX12_numeral_0 n [some (.ref a), some (.int x0), some (.int x1), none] [] μ := rfl
theorem eX12_lines (n : Nat) (a : Nat) (x0 : Int32) (μ : mM) : FX12_lines n [.ref a, .int x0] μ = kX12_lines_0 n [some (.ref a), some (.int x0), none, none] [] μ := rfl
theorem eX12_heir (n : Nat) (a : Nat) (μ : mM) : FX12_heir n [.ref a] μ = kX12_heir_0 n [some (.ref a), none, none, none, none, none] [] μ := rfl
theorem eX11_window (n : Nat) (a : Nat) (x0 : Int32) (x1 : Int32) (μ : mM) : FX11_window n [.ref a, .int x0, .int x1] μ = kX11_window_0 n [some (.ref a), some (.int x0), some (.int x1), none] [] μ := rfl
theorem eX11_thinkAhead (n : Nat) (a : Nat) (x0 : Int32) (μ : mM) : FX11_thinkAhead n [.ref a, .int x0] μ = kX11_thinkAhead_0 n [some (.ref a), some (.int x0), none] [] μ := rfl
theorem eX12_untell (n : Nat) (a : Nat) (x0 : Int32) (μ : mM) : FX12_untell n [.ref a, .int x0] μ = kX12_untell_0 n [some (.ref a), some (.int x0)] [] μ := rfl
theorem eX12_isSignHere (n : Nat) (a : Nat) (x0 : Int32) (μ : mM) : FX12_isSignHere n [.ref a, .int x0] μ = kX12_isSignHere_0 n [some (.ref a), some (.int x0)] [] μ := rfl
theorem eX5_takeSort (n : Nat) (a : Nat) (μ : mM) : FX5_takeSort n [.ref a] μ = kX5_takeSort_0 n [some (.ref a)] [] μ := rfl
theorem eX6_clear (n : Nat) (a : Nat) (μ : mM) : FX6_clear n [.ref a] μ = kX6_clear_0 n [some (.ref a)] [] μ := rfl
theorem eX12_dear (n : Nat) (a : Nat) (x0 : Int32) (μ : mM) : FX12_dear n [.ref a, .int x0] μ = kX12_dear_0 n [some (.ref a), some (.int x0), none, none] [] μ := rfl
theorem eX12_areBeside (n : Nat) (a : Nat) (x0 : Int32) (x1 : Int32) (μ : mM) : FX12_areBeside n [.ref a, .int x0, .int x1] μ = kX12_areBeside_0 n [some (.ref a), some (.int x0), some (.int x1), none, none] [] μ := rfl
theorem eX12_bit (n : Nat) (x0 : Int32) (x1 : Int32) (μ : mM) : FX12_bit n [.int x0, .int x1] μ = kX12_bit_0 n [some (.int x0), some (.int x1)] [] μ := rfl
theorem eX11_put (n : Nat) (a : Nat) (x0 : Int32) (x1 : Int32) (μ : mM) : FX11_put n [.ref a, .int x0, .int x1] μ = kX11_put_0 n [some (.ref a), some (.int x0), some (.int x1)] [] μ := rfl
theorem eX11_isHeading (n : Nat) (x0 : Int32) (μ : mM) : FX11_isHeading n [.int x0] μ = kX11_isHeading_0 n [some (.int x0)] [] μ := rfl
theorem eX12_steer (n : Nat) (a : Nat) (x0 : Int32) (x1 : Int32) (μ : mM) : FX12_steer n [.ref a, .int x0, .int x1] μ = kX12_steer_0 n [some (.ref a), some (.int x0), some (.int x1)] [] μ := rfl
theorem eX5_startsUnit (n : Nat) (a : Nat) (x0 : Int32) (μ : mM) : FX5_startsUnit n [.ref a, .int x0] μ = kX5_startsUnit_0 n [some (.ref a), some (.int x0)] [] μ := rfl
theorem eX12_car (n : Nat) (a : Nat) (x0 : Int32) (x1 : Int32) (μ : mM) : FX12_car n [.ref a, .int x0, .int x1] μ = kX12_car_0 n [some (.ref a), some (.int x0), some (.int x1)] [] μ := rfl
theorem eX12_jam (n : Nat) (a : Nat) (μ : mM) : FX12_jam n [.ref a] μ = kX12_jam_0 n [some (.ref a), none] [] μ := rfl
theorem eX12_divisor (n : Nat) (x0 : Int32) (x1 : Int32) (μ : mM) : FX12_divisor n [.int x0, .int x1] μ = kX12_divisor_0 n [some (.int x0), some (.int x1), none, none, none] [] μ := rfl
theorem eX8_hasOnLine (n : Nat) (a : Nat) (x0 : Int32) (x1 : Int32) (μ : mM) : FX8_hasOnLine n [.ref a, .int x0, .int x1] μ = kX8_hasOnLine_0 n [some (.ref a), some (.int x0), some (.int x1)] [] μ := rfl
theorem eX11_walk (n : Nat) (a : Nat) (x0 : Int32) (x1 : Int32) (μ : mM) : FX11_walk n [.ref a, .int x0, .int x1] μ = kX11_walk_0 n [some (.ref a), some (.int x0), some (.int x1)] [] μ := rfl
theorem eX12_isGood (n : Nat) (a : Nat) (μ : mM) : FX12_isGood n [.ref a] μ = kX12_isGood_0 n [some (.ref a)] [] μ := rfl
theorem eX12_isDigit (n : Nat) (x0 : Int32) (μ : mM) : FX12_isDigit n [.int x0] μ = kX12_isDigit_0 n [some (.int x0)] [] μ := rfl
theorem eX2_goOn (n : Nat) (a : Nat) (x0 : Int32) (μ : mM) : FX2_goOn n [.ref a, .int x0] μ = kX2_goOn_0 n [some (.ref a), some (.int x0)] [] μ := rfl
theorem eX11_set (n : Nat) (x0 : Nat) (x1 : Int32) (x2 : Int32) (μ : mM) : FX11_set n [.ref x0, .int x1, .int x2] μ = kX11_set_0 n [some (.ref x0), some (.int x1), some (.int x2)] [] μ := rfl
theorem eX8_copyFrom (n : Nat) (a : Nat) (x0 : Nat) (μ : mM) : FX8_copyFrom n [.ref a, .ref x0] μ = kX8_copyFrom_0 n [some (.ref a), some (.ref x0)] [] μ := rfl
theorem eX3_begin (n : Nat) (a : Nat) (μ : mM) : FX3_begin n [.ref a] μ = kX3_begin_0 n [some (.ref a)] [] μ := rfl
theorem eX0_firstFreeAmong (n : Nat) (a : Nat) (x0 : Int32) (μ : mM) : FX0_firstFreeAmong n [.ref a, .int x0] μ = kX0_firstFreeAmong_0 n [some (.ref a), some (.int x0), none] [] μ := rfl
theorem eX12_bringBack (n : Nat) (a : Nat) (μ : mM) : FX12_bringBack n [.ref a] μ = kX12_bringBack_0 n [some (.ref a), none] [] μ := rfl
theorem eX4_worthBy (n : Nat) (a : Nat) (x0 : Int32) (x1 : Int32) (x2 : Int32) (x3 : Int32) (x4 : Int32) (μ : mM) : FX4_worthBy n [.ref a, .int x0, .int x1, .int x2, .int x3, .int x4] μ = kX4_worthBy_0 n [some (.ref a), some (.int x0), some (.int x1), some (.int x2), some (.int x3), some (.int x4), none] [] μ := rfl
theorem eX12_doesFit (n : Nat) (a : Nat) (x0 : Int32) (x1 : Int32) (μ : mM) : FX12_doesFit n [.ref a, .int x0, .int x1] μ = kX12_doesFit_0 n [some (.ref a), some (.int x0), some (.int x1), none, none] [] μ := rfl
theorem eX11_tryExchange (n : Nat) (a : Nat) (x0 : Int32) (x1 : Int32) (μ : mM) : FX11_tryExchange n [.ref a, .int x0, .int x1] μ = kX11_tryExchange_0 n [some (.ref a), some (.int x0), some (.int x1), none, none, none] [] μ := rfl
theorem eX12_about (n : Nat) (a : Nat) (x0 : Int32) (μ : mM) : FX12_about n [.ref a, .int x0] μ = kX12_about_0 n [some (.ref a), some (.int x0)] [] μ := rfl
theorem eX12_let (n : Nat) (a : Nat) (x0 : Int32) (μ : mM) : FX12_let n [.ref a, .int x0] μ = kX12_let_0 n [some (.ref a), some (.int x0)] [] μ := rfl
theorem eX12_tows (n : Nat) (a : Nat) (x0 : Int32) (μ : mM) : FX12_tows n [.ref a, .int x0] μ = kX12_tows_0 n [some (.ref a), some (.int x0), none, none] [] μ := rfl
theorem eX11_let (n : Nat) (a : Nat) (x0 : Int32) (μ : mM) : FX11_let n [.ref a, .int x0] μ = kX11_let_0 n [some (.ref a), some (.int x0)] [] μ := rfl
theorem eX9_isLetter (n : Nat) (a : Nat) (x0 : Int32) (μ : mM) : FX9_isLetter n [.ref a, .int x0] μ = kX9_isLetter_0 n [some (.ref a), some (.int x0), none] [] μ := rfl
theorem eX10_init (n : Nat) (a : Nat) (x0 : Nat) (μ : mM) : FX10_init n [.ref a, .ref x0] μ = kX10_init_0 n [some (.ref a), some (.ref x0)] [] μ := rfl
theorem eX4_hasCar (n : Nat) (a : Nat) (x0 : Int32) (μ : mM) : FX4_hasCar n [.ref a, .int x0] μ = kX4_hasCar_0 n [some (.ref a), some (.int x0)] [] μ := rfl
theorem eX11_ring (n : Nat) (a : Nat) (x0 : Int32) (μ : mM) : FX11_ring n [.ref a, .int x0] μ = kX11_ring_0 n [some (.ref a), some (.int x0)] [] μ := rfl
theorem eX11_law (n : Nat) (a : Nat) (x0 : Int32) (μ : mM) : FX11_law n [.ref a, .int x0] μ = kX11_law_0 n [some (.ref a), some (.int x0), none] [] μ := rfl
theorem eX12_goOff (n : Nat) (a : Nat) (x0 : Int32) (μ : mM) : FX12_goOff n [.ref a, .int x0] μ = kX12_goOff_0 n [some (.ref a), some (.int x0)] [] μ := rfl
theorem eX12_isCar (n : Nat) (a : Nat) (x0 : Int32) (μ : mM) : FX12_isCar n [.ref a, .int x0] μ = kX12_isCar_0 n [some (.ref a), some (.int x0)] [] μ := rfl
theorem eX9_numberFrom (n : Nat) (a : Nat) (x0 : Int32) (μ : mM) : FX9_numberFrom n [.ref a, .int x0] μ = kX9_numberFrom_0 n [some (.ref a), some (.int x0), none, none, none] [] μ := rfl
theorem eX8_allHoots (n : Nat) (a : Nat) (μ : mM) : FX8_allHoots n [.ref a] μ = kX8_allHoots_0 n [some (.ref a), none, none] [] μ := rfl
theorem eX12_layFrom (n : Nat) (a : Nat) (x0 : Int32) (μ : mM) : FX12_layFrom n [.ref a, .int x0] μ = kX12_layFrom_0 n [some (.ref a), some (.int x0), none] [] μ := rfl
theorem eX11_finest (n : Nat) (a : Nat) (μ : mM) : FX11_finest n [.ref a] μ = kX11_finest_0 n [some (.ref a), none, none, none, none, none] [] μ := rfl
theorem eX1_init (n : Nat) (a : Nat) (μ : mM) : FX1_init n [.ref a] μ = kX1_init_0 n [some (.ref a)] [] μ := rfl
theorem eX12_readCell (n : Nat) (a : Nat) (μ : mM) : FX12_readCell n [.ref a] μ = kX12_readCell_0 n [some (.ref a), none, none, none, none] [] μ := rfl
theorem eX11_commonDivisor (n : Nat) (x0 : Int32) (x1 : Int32) (μ : mM) : FX11_commonDivisor n [.int x0, .int x1] μ = kX11_commonDivisor_0 n [some (.int x0), some (.int x1), none, none, none, none] [] μ := rfl
theorem eX2_makeTable (n : Nat) (a : Nat) (μ : mM) : FX2_makeTable n [.ref a] μ = kX2_makeTable_0 n [some (.ref a), none] [] μ := rfl
theorem eX10_layWayFrom (n : Nat) (a : Nat) (x0 : Int32) (x1 : Nat) (μ : mM) : FX10_layWayFrom n [.ref a, .int x0, .ref x1] μ = kX10_layWayFrom_0 n [some (.ref a), some (.int x0), some (.ref x1), none, none] [] μ := rfl
theorem eX11_init (n : Nat) (a : Nat) (μ : mM) : FX11_init n [.ref a] μ = kX11_init_0 n [some (.ref a)] [] μ := rfl
theorem eX3_stepOn (n : Nat) (a : Nat) (μ : mM) : FX3_stepOn n [.ref a] μ = kX3_stepOn_0 n [some (.ref a)] [] μ := rfl
theorem eX12_fails (n : Nat) (a : Nat) (x0 : Int32) (x1 : Int32) (μ : mM) : FX12_fails n [.ref a, .int x0, .int x1] μ = kX12_fails_0 n [some (.ref a), some (.int x0), some (.int x1)] [] μ := rfl
theorem eX2_greatestFit (n : Nat) (a : Nat) (μ : mM) : FX2_greatestFit n [.ref a] μ = kX2_greatestFit_0 n [some (.ref a)] [] μ := rfl
theorem eX5_formulaLine (n : Nat) (a : Nat) (x0 : Nat) (μ : mM) : FX5_formulaLine n [.ref a, .ref x0] μ = kX5_formulaLine_0 n [some (.ref a), some (.ref x0)] [] μ := rfl
theorem eX12_isOnLine (n : Nat) (a : Nat) (x0 : Int32) (x1 : Int32) (μ : mM) : FX12_isOnLine n [.ref a, .int x0, .int x1] μ = kX12_isOnLine_0 n [some (.ref a), some (.int x0), some (.int x1), none, none] [] μ := rfl
theorem eX5_takeOnce (n : Nat) (a : Nat) (μ : mM) : FX5_takeOnce n [.ref a] μ = kX5_takeOnce_0 n [some (.ref a)] [] μ := rfl
theorem eX11_fullest (n : Nat) (a : Nat) (μ : mM) : FX11_fullest n [.ref a] μ = kX11_fullest_0 n [some (.ref a), none, none, none, none] [] μ := rfl
theorem eX2_init (n : Nat) (a : Nat) (x0 : Nat) (μ : mM) : FX2_init n [.ref a, .ref x0] μ = kX2_init_0 n [some (.ref a), some (.ref x0)] [] μ := rfl
theorem eX12_two (n : Nat) (x0 : Int32) (x1 : Int32) (x2 : Int32) (μ : mM) : FX12_two n [.int x0, .int x1, .int x2] μ = kX12_two_0 n [some (.int x0), some (.int x1), some (.int x2)] [] μ := rfl
theorem eX12_reach (n : Nat) (a : Nat) (x0 : Int32) (μ : mM) : FX12_reach n [.ref a, .int x0] μ = kX12_reach_0 n [some (.ref a), some (.int x0), none, none] [] μ := rfl
theorem eX8_priceOfAll (n : Nat) (a : Nat) (μ : mM) : FX8_priceOfAll n [.ref a] μ = kX8_priceOfAll_0 n [some (.ref a), none, none, none] [] μ := rfl
theorem eX12_aheadOf (n : Nat) (a : Nat) (x0 : Int32) (μ : mM) : FX12_aheadOf n [.ref a, .int x0] μ = kX12_aheadOf_0 n [some (.ref a), some (.int x0), none, none, none] [] μ := rfl
theorem eX12_isSign (n : Nat) (x0 : Int32) (μ : mM) : FX12_isSign n [.int x0] μ = kX12_isSign_0 n [some (.int x0)] [] μ := rfl
theorem eX10_come (n : Nat) (a : Nat) (x0 : Int32) (x1 : Int32) (μ : mM) : FX10_come n [.ref a, .int x0, .int x1] μ = kX10_come_0 n [some (.ref a), some (.int x0), some (.int x1)] [] μ := rfl
theorem eX3_dropOldest (n : Nat) (a : Nat) (μ : mM) : FX3_dropOldest n [.ref a] μ = kX3_dropOldest_0 n [some (.ref a), none] [] μ := rfl
theorem eX12_layTold (n : Nat) (a : Nat) (μ : mM) : FX12_layTold n [.ref a] μ = kX12_layTold_0 n [some (.ref a), none, none] [] μ := rfl
theorem eX12_softer (n : Nat) (a : Nat) (x0 : Int32) (μ : mM) : FX12_softer n [.ref a, .int x0] μ = kX12_softer_0 n [some (.ref a), some (.int x0)] [] μ := rfl
theorem eX1_add (n : Nat) (a : Nat) (x0 : Int32) (μ : mM) : FX1_add n [.ref a, .int x0] μ = kX1_add_0 n [some (.ref a), some (.int x0)] [] μ := rfl
theorem eX12_isIn (n : Nat) (x0 : Int32) (x1 : Int32) (x2 : Int32) (μ : mM) : FX12_isIn n [.int x0, .int x1, .int x2] μ = kX12_isIn_0 n [some (.int x0), some (.int x1), some (.int x2)] [] μ := rfl
theorem eX0_isSmaller (n : Nat) (x0 : Int32) (x1 : Int32) (μ : mM) : FX0_isSmaller n [.int x0, .int x1] μ = kX0_isSmaller_0 n [some (.int x0), some (.int x1)] [] μ := rfl
theorem eX11_exchange (n : Nat) (a : Nat) (x0 : Int32) (μ : mM) : FX11_exchange n [.ref a, .int x0] μ = kX11_exchange_0 n [some (.ref a), some (.int x0), none, none] [] μ := rfl
theorem eX11_isLook (n : Nat) (x0 : Int32) (μ : mM) : FX11_isLook n [.int x0] μ = kX11_isLook_0 n [some (.int x0)] [] μ := rfl
theorem eX12_readCar (n : Nat) (a : Nat) (μ : mM) : FX12_readCar n [.ref a] μ = kX12_readCar_0 n [some (.ref a), none] [] μ := rfl
theorem eX11_ask (n : Nat) (a : Nat) (x0 : Int32) (x1 : Int32) (μ : mM) : FX11_ask n [.ref a, .int x0, .int x1] μ = kX11_ask_0 n [some (.ref a), some (.int x0), some (.int x1)] [] μ := rfl
theorem eX12_lot (n : Nat) (a : Nat) (x0 : Int32) (μ : mM) : FX12_lot n [.ref a, .int x0] μ = kX12_lot_0 n [some (.ref a), some (.int x0), none, none, none, none] [] μ := rfl
theorem eX2_tell (n : Nat) (a : Nat) (x0 : Int32) (x1 : Int32) (x2 : Int32) (μ : mM) : FX2_tell n [.ref a, .int x0, .int x1, .int x2] μ = kX2_tell_0 n [some (.ref a), some (.int x0), some (.int x1), some (.int x2), none, none] [] μ := rfl
theorem eX12_emit (n : Nat) (a : Nat) (x0 : Int32) (x1 : Int32) (μ : mM) : FX12_emit n [.ref a, .int x0, .int x1] μ = kX12_emit_0 n [some (.ref a), some (.int x0), some (.int x1)] [] μ := rfl
theorem eX8_howMany (n : Nat) (a : Nat) (μ : mM) : FX8_howMany n [.ref a] μ = kX8_howMany_0 n [some (.ref a)] [] μ := rfl
theorem eX8_whoIsFree (n : Nat) (a : Nat) (μ : mM) : FX8_whoIsFree n [.ref a] μ = kX8_whoIsFree_0 n [some (.ref a), none, none] [] μ := rfl
theorem eX0_smallestRing (n : Nat) (a : Nat) (μ : mM) : FX0_smallestRing n [.ref a] μ = kX0_smallestRing_0 n [some (.ref a), none, none] [] μ := rfl
theorem eX0_fewestTows (n : Nat) (a : Nat) (μ : mM) : FX0_fewestTows n [.ref a] μ = kX0_fewestTows_0 n [some (.ref a), none, none] [] μ := rfl
theorem eX12_many (n : Nat) (a : Nat) (μ : mM) : FX12_many n [.ref a] μ = kX12_many_0 n [some (.ref a)] [] μ := rfl
theorem eX12_isRing (n : Nat) (a : Nat) (x0 : Int32) (μ : mM) : FX12_isRing n [.ref a, .int x0] μ = kX12_isRing_0 n [some (.ref a), some (.int x0), none] [] μ := rfl
theorem eX11_find (n : Nat) (a : Nat) (x0 : Int32) (x1 : Int32) (x2 : Int32) (μ : mM) : FX11_find n [.ref a, .int x0, .int x1, .int x2] μ = kX11_find_0 n [some (.ref a), some (.int x0), some (.int x1), some (.int x2)] [] μ := rfl
theorem eX12_goYear (n : Nat) (a : Nat) (μ : mM) : FX12_goYear n [.ref a] μ = kX12_goYear_0 n [some (.ref a), none] [] μ := rfl
theorem eX11_image (n : Nat) (a : Nat) (x0 : Int32) (μ : mM) : FX11_image n [.ref a, .int x0] μ = kX11_image_0 n [some (.ref a), some (.int x0)] [] μ := rfl
theorem eX12_end (n : Nat) (a : Nat) (x0 : Int32) (μ : mM) : FX12_end n [.ref a, .int x0] μ = kX12_end_0 n [some (.ref a), some (.int x0)] [] μ := rfl
theorem eX12_those (n : Nat) (a : Nat) (μ : mM) : FX12_those n [.ref a] μ = kX12_those_0 n [some (.ref a), none, none] [] μ := rfl
theorem eX9_wordFrom (n : Nat) (a : Nat) (x0 : Int32) (μ : mM) : FX9_wordFrom n [.ref a, .int x0] μ = kX9_wordFrom_0 n [some (.ref a), some (.int x0), none, none, none] [] μ := rfl
theorem eX12_ring (n : Nat) (a : Nat) (x0 : Int32) (μ : mM) : FX12_ring n [.ref a, .int x0] μ = kX12_ring_0 n [some (.ref a), some (.int x0), none, none] [] μ := rfl
theorem eX12_isCompared (n : Nat) (a : Nat) (μ : mM) : FX12_isCompared n [.ref a] μ = kX12_isCompared_0 n [some (.ref a), none] [] μ := rfl
theorem eX12_sale (n : Nat) (a : Nat) (x0 : Int32) (x1 : Int32) (μ : mM) : FX12_sale n [.ref a, .int x0, .int x1] μ = kX12_sale_0 n [some (.ref a), some (.int x0), some (.int x1), none, none] [] μ := rfl
theorem eX12_isRest (n : Nat) (a : Nat) (x0 : Int32) (x1 : Int32) (x2 : Int32) (x3 : Int32) (μ : mM) : FX12_isRest n [.ref a, .int x0, .int x1, .int x2, .int x3] μ = kX12_isRest_0 n [some (.ref a), some (.int x0), some (.int x1), some (.int x2), some (.int x3), none] [] μ := rfl
theorem eX11_loose (n : Nat) (a : Nat) (μ : mM) : FX11_loose n [.ref a] μ = kX11_loose_0 n [some (.ref a)] [] μ := rfl
theorem eX5_takeNumber (n : Nat) (a : Nat) (x0 : Int32) (x1 : Int32) (μ : mM) : FX5_takeNumber n [.ref a, .int x0, .int x1] μ = kX5_takeNumber_0 n [some (.ref a), some (.int x0), some (.int x1)] [] μ := rfl
theorem eX12_init (n : Nat) (a : Nat) (μ : mM) : FX12_init n [.ref a] μ = kX12_init_0 n [some (.ref a)] [] μ := rfl
