/-! the JDK's texts: length and charAt of the nineteen constants -/
def rhCh (i k : Nat) : Int32 := (rhByt.getD i []).getD k 0
theorem str_shr : ∀ i, i < 11 → nI (rhLen.getD i 0) >>> ((0 : Int32) &&& 31) = nI (rhLen.getD i 0) := by decide +kernel
theorem str_ch : ∀ i, i < 11 → ∀ k, k < rhLen.getD i 0 → ((rhCh i k &&& 255).toUInt32 % 65536).toInt32 = rhCh i k ∧ narrow .char (.int (rhCh i k)) = .int (rhCh i k) := by decide +kernel
theorem str_len : ∀ i, i < 11 → rhLen.getD i 0 < 100 := by decide +kernel
set_option maxRecDepth 100000 in
theorem c_J0_coder (l : Launch) (E : rhE) (i : Nat) (hi : i < 11) : Ctr l E yJ0_coder_7d493 cJ0_coder_7d493 1 (some .byte) (rmL 0) [.ref (E.2.2.2.1 i)] [] (One (some (.int 0)) []) := by
  refine Ctr.of (by decide) (Nat.le_of_ble_eq_true rfl) rfl rfl 0 ?_
  intro X hX hR
  refine rh_compact hX dJ0_coder_7d493_0 fs_J0_38 ?_
  refine rh_if_eq_f (tgt := 13) hX dJ0_coder_7d493_3 (by decide) (by decide) ?_
  refine rh_aload_n hX dJ0_coder_7d493_6 rfl ?_
  refine rh_getCod hX dJ0_coder_7d493_7 hi fs_J0_15 ?_
  refine rh_goto (tgt := 14) hX dJ0_coder_7d493_10 (by decide) ?_
  exact rh_zret hX hR dJ0_coder_7d493_14 rfl rfl ⟨rfl, rfl⟩
set_option maxRecDepth 100000 in
theorem c_J0_isLatin1 (l : Launch) (E : rhE) (i : Nat) (hi : i < 11) : Ctr l E yJ0_isLatin1_aae02 cJ0_isLatin1_aae02 1 (some .boolean) (rmL 0) [.ref (E.2.2.2.1 i)] [] (One (some (.int 1)) []) := by
  refine Ctr.of (by decide) (Nat.le_of_ble_eq_true rfl) rfl rfl 0 ?_
  intro X hX hR
  refine rh_compact hX dJ0_isLatin1_aae02_0 fs_J0_38 ?_
  refine rh_if_eq_f (tgt := 17) hX dJ0_isLatin1_aae02_3 (by decide) (by decide) ?_
  refine rh_aload_n hX dJ0_isLatin1_aae02_6 rfl ?_
  refine rh_getCod hX dJ0_isLatin1_aae02_7 hi fs_J0_15 ?_
  refine rh_if_ne_f (tgt := 17) hX dJ0_isLatin1_aae02_10 (by decide) rfl ?_
  refine rh_iconst hX dJ0_isLatin1_aae02_13 ki_1 ?_
  refine rh_goto (tgt := 18) hX dJ0_isLatin1_aae02_14 (by decide) ?_
  exact rh_zret hX hR dJ0_isLatin1_aae02_18 rfl rfl ⟨rfl, rfl⟩
set_option maxRecDepth 100000 in
theorem c_J0_length (l : Launch) (E : rhE) (i : Nat) (hi : i < 11) : Ctr l E yJ0_length_8abf5 cJ0_length_8abf5 1 (some .int) (rmL 1) [.ref (E.2.2.2.1 i)] [] (One (some (.int (nI (rhLen.getD i 0)))) []) := by
  refine Ctr.of (by decide) (Nat.le_of_ble_eq_true rfl) rfl rfl 0 ?_
  intro X hX hR
  refine rh_aload_n hX dJ0_length_8abf5_0 rfl ?_
  refine rh_getStr hX dJ0_length_8abf5_1 hi fs_J0_9 ?_
  refine rh_lenStr hX dJ0_length_8abf5_4 hi ?_
  refine rh_aload_n hX dJ0_length_8abf5_5 rfl ?_
  refine rh_pT hX lk_J0_335 mtJ0_coder_7d493 (fun l => c_J0_coder l E i hi) hi ⟨rfl, rfl⟩ ⟨Nat.le_of_ble_eq_true rfl, Nat.le_of_ble_eq_true rfl⟩ dJ0_length_8abf5_6 rfl rfl (Nat.le_of_ble_eq_true rfl) ?_
  refine rh_ishr hX dJ0_length_8abf5_9 ?_
  rw [str_shr i hi]
  exact rh_iret hX hR dJ0_length_8abf5_10 rfl ⟨rfl, rfl⟩
set_option maxRecDepth 100000 in
theorem c_J3_checkIndex_0 (l : Launch) (E : rhE) (k n : Nat) (hk : k < n) (hn : n < 2 ^ 31) : Ctr l E yJ3_checkIndex_8e157 cJ3_checkIndex_8e157 3 (some .int) (rmL 0) [.int (nI k), .int (nI n), .null] [] (One (some (.int (nI k))) []) := by
  refine Ctr.of (by decide) (Nat.le_of_ble_eq_true rfl) rfl rfl 0 ?_
  intro X hX hR
  refine rh_iload_n hX dJ3_checkIndex_8e157_0 rfl ?_
  refine rh_if_lt_f (tgt := 9) hX dJ3_checkIndex_8e157_1 (by decide) (nI_pos (by omega)) ?_
  refine rh_iload_n hX dJ3_checkIndex_8e157_4 rfl ?_
  refine rh_iload_n hX dJ3_checkIndex_8e157_5 rfl ?_
  refine rh_icmp_lt_t (tgt := 16) hX dJ3_checkIndex_8e157_6 (by decide) (nI_lt hk hn) ?_
  refine rh_iload_n hX dJ3_checkIndex_8e157_16 rfl ?_
  exact rh_iret hX hR dJ3_checkIndex_8e157_17 rfl ⟨rfl, rfl⟩
set_option maxRecDepth 100000 in
theorem c_J3_checkIndex_1 (l : Launch) (E : rhE) (k n t : Nat) (hk : k < n) (hn : n < 2 ^ 31) : Ctr l E yJ3_checkIndex_8e157 cJ3_checkIndex_8e157 3 (some .int) (rmL 0) [.int (nI k), .int (nI n), .ref t] [] (One (some (.int (nI k))) []) := by
  refine Ctr.of (by decide) (Nat.le_of_ble_eq_true rfl) rfl rfl 0 ?_
  intro X hX hR
  refine rh_iload_n hX dJ3_checkIndex_8e157_0 rfl ?_
  refine rh_if_lt_f (tgt := 9) hX dJ3_checkIndex_8e157_1 (by decide) (nI_pos (by omega)) ?_
  refine rh_iload_n hX dJ3_checkIndex_8e157_4 rfl ?_
  refine rh_iload_n hX dJ3_checkIndex_8e157_5 rfl ?_
  refine rh_icmp_lt_t (tgt := 16) hX dJ3_checkIndex_8e157_6 (by decide) (nI_lt hk hn) ?_
  refine rh_iload_n hX dJ3_checkIndex_8e157_16 rfl ?_
  exact rh_iret hX hR dJ3_checkIndex_8e157_17 rfl ⟨rfl, rfl⟩
set_option maxRecDepth 100000 in
theorem c_J0_checkIndex (l : Launch) (E : rhE) (k n : Nat) (hk : k < n) (hn : n < 2 ^ 31) : Ctr l E yJ0_checkIndex_df160 cJ0_checkIndex_df160 2 none (rmL 1) [.int (nI k), .int (nI n)] [] (One none []) := by
  refine Ctr.of (by decide) (Nat.le_of_ble_eq_true rfl) rfl rfl 0 ?_
  intro X hX hR
  refine rh_iload_n hX dJ0_checkIndex_df160_0 rfl ?_
  refine rh_iload_n hX dJ0_checkIndex_df160_1 rfl ?_
  refine rh_sioobe hX dJ0_checkIndex_df160_2 fs_J0_1053 (fun v hv => ?_)
  rcases hv with rfl | ⟨t, rfl⟩
  · refine rh_pS hX lk_J0_1059 msJ3_checkIndex_8e157 (fun l => c_J3_checkIndex_0 l E k n hk hn) ⟨rfl, rfl⟩ ⟨Nat.le_of_ble_eq_true rfl, Nat.le_of_ble_eq_true rfl⟩ [] rfl rfl dJ0_checkIndex_df160_5 rfl rfl (Nat.le_of_ble_eq_true rfl) ?_
    refine rh_pop hX dJ0_checkIndex_df160_8 rfl ?_
    exact rh_vret hX hR dJ0_checkIndex_df160_9 rfl ⟨rfl, rfl⟩
  · refine rh_pS hX lk_J0_1059 msJ3_checkIndex_8e157 (fun l => c_J3_checkIndex_1 l E k n t hk hn) ⟨rfl, rfl⟩ ⟨Nat.le_of_ble_eq_true rfl, Nat.le_of_ble_eq_true rfl⟩ [] rfl rfl dJ0_checkIndex_df160_5 rfl rfl (Nat.le_of_ble_eq_true rfl) ?_
    refine rh_pop hX dJ0_checkIndex_df160_8 rfl ?_
    exact rh_vret hX hR dJ0_checkIndex_df160_9 rfl ⟨rfl, rfl⟩
set_option maxRecDepth 100000 in
theorem c_J1_charAt (l : Launch) (E : rhE) (i k : Nat) (hi : i < 11) (hk : k < rhLen.getD i 0) : Ctr l E yJ1_charAt_3b067 cJ1_charAt_3b067 2 (some .char) (rmL 2) [.ref (E.2.2.2.2 i), .int (nI k)] [] (One (some (.int (rhCh i k))) []) := by
  have hn := str_len i hi
  refine Ctr.of (by decide) (Nat.le_of_ble_eq_true rfl) rfl rfl 0 ?_
  intro X hX hR
  refine rh_iload_n hX dJ1_charAt_3b067_0 rfl ?_
  refine rh_aload_n hX dJ1_charAt_3b067_1 rfl ?_
  refine rh_lenStr hX dJ1_charAt_3b067_2 hi ?_
  refine rh_uS hX lk_J1_9 msJ0_checkIndex_df160 (fun l => c_J0_checkIndex l E k _ hk (by omega)) ⟨rfl, rfl⟩ ⟨Nat.le_of_ble_eq_true rfl, Nat.le_of_ble_eq_true rfl⟩ [] rfl rfl dJ1_charAt_3b067_3 rfl rfl (Nat.le_of_ble_eq_true rfl) rfl ?_
  refine rh_aload_n hX dJ1_charAt_3b067_6 rfl ?_
  refine rh_iload_n hX dJ1_charAt_3b067_7 rfl ?_
  refine rh_balStr hX dJ1_charAt_3b067_8 hi hk (by omega) ?_
  refine rh_sipush hX dJ1_charAt_3b067_9 ks_255 ?_
  refine rh_iand hX dJ1_charAt_3b067_12 ?_
  refine rh_i2c hX dJ1_charAt_3b067_13 ?_
  rw [show (((rhByt.getD i []).getD k 0 &&& 255).toUInt32 % 65536).toInt32 = rhCh i k from (str_ch i hi k hk).1]
  exact rh_zret hX hR dJ1_charAt_3b067_14 (str_ch i hi k hk).2 rfl ⟨rfl, rfl⟩
set_option maxRecDepth 100000 in
theorem c_J0_charAt (l : Launch) (E : rhE) (i k : Nat) (hi : i < 11) (hk : k < rhLen.getD i 0) : Ctr l E yJ0_charAt_5068e cJ0_charAt_5068e 2 (some .char) (rmL 3) [.ref (E.2.2.2.1 i), .int (nI k)] [] (One (some (.int (rhCh i k))) []) := by
  refine Ctr.of (by decide) (Nat.le_of_ble_eq_true rfl) rfl rfl 0 ?_
  intro X hX hR
  refine rh_aload_n hX dJ0_charAt_5068e_0 rfl ?_
  refine rh_pT hX lk_J0_492 mtJ0_isLatin1_aae02 (fun l => c_J0_isLatin1 l E i hi) hi ⟨rfl, rfl⟩ ⟨Nat.le_of_ble_eq_true rfl, Nat.le_of_ble_eq_true rfl⟩ dJ0_charAt_5068e_1 rfl rfl (Nat.le_of_ble_eq_true rfl) ?_
  refine rh_if_eq_f (tgt := 16) hX dJ0_charAt_5068e_4 (by decide) (by decide) ?_
  refine rh_aload_n hX dJ0_charAt_5068e_7 rfl ?_
  refine rh_getStr hX dJ0_charAt_5068e_8 hi fs_J0_9 ?_
  refine rh_iload_n hX dJ0_charAt_5068e_11 rfl ?_
  refine rh_pS hX lk_J0_495 msJ1_charAt_3b067 (fun l => c_J1_charAt l E i k hi hk) ⟨rfl, rfl⟩ ⟨Nat.le_of_ble_eq_true rfl, Nat.le_of_ble_eq_true rfl⟩ [] rfl rfl dJ0_charAt_5068e_12 rfl rfl (Nat.le_of_ble_eq_true rfl) ?_
  exact rh_zret hX hR dJ0_charAt_5068e_15 (str_ch i hi k hk).2 rfl ⟨rfl, rfl⟩
