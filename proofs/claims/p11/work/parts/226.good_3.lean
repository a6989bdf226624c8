set_option maxRecDepth 20000 in
theorem gX8_back_X8_in : GoodIn wsX8_back (va_wsS RX8 142 yX8_in wsX8_in) := goodIn_s _ [(12, 2), (8, 1), (14, 1)] rfl (by decide +kernel)
set_option maxRecDepth 20000 in
theorem gX8_back_X8_isNot : GoodIn wsX8_back (wsV RX8 389 RX8 yX8_isNot wsX8_isNot) := goodIn_s _ [(15, 3), (8, 1), (18, 1), (11, 1), (22, 40)] rfl (by decide +kernel)
set_option maxRecDepth 20000 in
theorem gX8_back_X8_copy : GoodIn wsX8_back (va_wsS RX8 169 yX8_copy wsX8_copy) := goodIn_s _ [(19, 2), (8, 1), (21, 1)] rfl (by decide +kernel)
set_option maxRecDepth 20000 in
theorem gX8_size_X8_in : GoodIn wsX8_size (va_wsS RX8 142 yX8_in wsX8_in) := goodIn_s _ [(8, 4)] rfl (by decide +kernel)
