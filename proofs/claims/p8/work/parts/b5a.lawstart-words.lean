theorem m_in_RX11 : Cond.instantiable RX11 11 ∈ zT := zmem1 zsub_1 21 (by decide +kernel) (by decide +kernel)
theorem m_in_RX12 : Cond.instantiable RX12 43 ∈ zT := zmem1 zsub_5 230 (by decide +kernel) (by decide +kernel)

