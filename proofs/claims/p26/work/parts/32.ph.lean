theorem pq_ph32 : True := trivial
