theorem m_in_RX11 : Cond.instantiable RX11 11 ∈ zT := zmem1 zsub_1 21 rfl rfl
theorem m_in_RX12 : Cond.instantiable RX12 43 ∈ zT := zmem1 zsub_5 230 rfl rfl

